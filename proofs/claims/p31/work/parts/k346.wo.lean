/-! work (behind fn_move) -/
theorem smL.sE {S u : MS} (h : smL S u) {a b : Nat} (ha : okH S (a + 1)) (hb : okH S (b + 1)) : sEq u a b = sEq S a b := by
  have za := h.1.1 (a + 1) ha
  have zb := h.1.1 (b + 1) hb
  have e : sEqP u a b ↔ sEqP S a b := by
    unfold sEqP
    rw [za.1, zb.1, za.2.2.2.2, zb.2.2.2.2]
  unfold sEq
  by_cases c : sEqP S a b
  · rw [if_pos c, if_pos (e.mpr c)]
  · rw [if_neg c, if_neg (fun q => c (e.mp q))]
def aW1 (op fst : Int32) (tg : Nat → Int32) (tn : Nat) (gg : Nat → Int32) (gn : Nat) (th : Int32) (a : AS) : AS :=
  aGives gg th 0 gn (if op.toInt = 54 ∨ op.toInt = 55 ∨ op.toInt = 58 then aStore op fst th (aTakes tg tn a) else aTakes tg tn a)
def aW2 (op fst : Int32) (rm : Int32) (a : AS) : AS :=
  let a3 := if op.toInt = 21 ∨ op.toInt = 132 then aNeed (if (aL a fst.toInt.toNat).toInt = 1 then 1 else 0) a else a
  let a4 := if op.toInt = 22 then aNeed (if (aL a3 fst.toInt.toNat).toInt = 2 then (if (aL a3 (fst + 1).toInt.toNat).toInt = 3 then 1 else 0) else 0) a3 else a3
  if op.toInt = 172 ∨ op.toInt = 173 ∨ op.toInt = 176 ∨ op.toInt = 177 then aNeed rm a4 else a4
def aWork (op fst : Int32) (tg : Nat → Int32) (tn : Nat) (gg : Nat → Int32) (gn : Nat) (rm : Int32) (a0 : AS) : AS :=
  let a1 : AS := (aL a0, aP a0, aT a0, 1)
  if op.toInt = 87 ∨ op.toInt = 88 ∨ op.toInt = 89 ∨ op.toInt = 90 ∨ op.toInt = 92 ∨ op.toInt = 95 then aMove op a1 else
  let th1 := if op.toInt = 25 then aL a1 fst.toInt.toNat else if op.toInt = 58 then aTop a1 else 0
  let a2 := if op.toInt = 25 then aNeed (isTh th1) a1 else a1
  let th2 := if (isTh th1).toInt = 0 then 0 else th1
  aW1 op fst tg tn gg gn th2 (aW2 op fst rm a2)
noncomputable def rmV (S : MS) (op : Int32) (p : Nat) : Int32 := sEq S p (if op.toInt = 172 then 10000016 else if op.toInt = 173 then 10000022 else if op.toInt = 176 then 10000028 else 10000032)
/-- the work of the instruction at x, for a method that gives p -/
noncomputable def wkV (S : MS) (x : Int32) (p : Nat) (a : AS) : AS := aWork (f_op S x) (f_first S x) (qI S (f_takesOf S x + 1)) (qN S (f_takesOf S x + 1)) (qI S (f_givesOf S x + 1)) (qN S (f_givesOf S x + 1)) (rmV S (f_op S x) p) a
theorem aT_W2 {op fst rm : Int32} {a : AS} : aT (aW2 op fst rm a) = aT a ∧ aL (aW2 op fst rm a) = aL a ∧ aP (aW2 op fst rm a) = aP a := by
  unfold aW2
  simp only
  repeat' split
  all_goals exact ⟨rfl, rfl, rfl⟩
theorem fn_work {S U : MS} {a : AS} {x : Int32} {p : Nat} {Q : MS → Prop} (h : LkI S) (ht : TxI S) (hx : 0 ≤ x.toInt ∧ x.toInt < (qI S 0 52).toInt) (hU : PA S a U) (hp : okH S (p + 1)) (hT : tkV S x ≤ (aT a).toInt ∧ (aT a).toInt ≤ 24 ∧ (aT a).toInt - tkV S x + gvV S x ≤ 28) (hQ : ∀ u, PA S (wkV S x p a) u → Q u) : w_work U x p Q := by
  have sL := hU.sL
  have tk := h.tk hx ht
  have gv := h.gv hx ht
  obtain ⟨L, F, M, ts, la, lb, rv, -, -⟩ := h.rv hx
  obtain ⟨v1, v2, v3, v4, v5, v6, v7⟩ := rv
  -- the last part
  have s312 : ∀ (V : MS) (b : AS) (th : Int32), PA S b V → (0 ≤ (aT b).toInt ∧ (aT b).toInt + plS S (f_givesOf S x) ≤ 28) → (∀ u, PA S (aGives (qI S (f_givesOf S x + 1)) th 0 (qN S (f_givesOf S x + 1)) b) u → Q u) → w_work_J312 Q V x th := fun V b th hV hb hq => by
    have KV := h.mv hV.sL
    have e52 : qI V 0 52 = qI S 0 52 := (hV.sL.2 52 (by decide) (by decide)).1
    unfold w_work_J312
    refine ⟨KV.dgv (by rw [e52]; exact hx), ?_⟩
    rw [(hV.sL.tg h x).2]
    exact ⟨_, fn_gives hV gv hb hq, fun u hu => hu⟩
  have s300 : ∀ (V : MS) (b : AS) (th : Int32), PA S b V → (0 ≤ (aT b).toInt ∧ (aT b).toInt + plS S (f_givesOf S x) ≤ 28) → ((f_op S x).toInt = 54 ∨ (f_op S x).toInt = 55 ∨ (f_op S x).toInt = 58) → (∀ u, PA S (aGives (qI S (f_givesOf S x + 1)) th 0 (qN S (f_givesOf S x + 1)) (aStore (f_op S x) (f_first S x) th b)) u → Q u) → w_work_J300 Q V x (f_op S x) th := fun V b th hV hb ho hq => by
    have KV := h.mv hV.sL
    have e52 : qI V 0 52 = qI S 0 52 := (hV.sL.2 52 (by decide) (by decide)).1
    have hf : 0 ≤ (f_first S x).toInt ∧ (f_first S x).toInt < 24 := by
      by_cases z : (f_op S x).toInt = 55
      · have := v5 (Or.inr z); omega
      · have := v4 (by omega); omega
    have hf2 : (f_op S x).toInt = 55 → (f_first S x).toInt + 1 < 24 := fun z => by have := v5 (Or.inr z); omega
    have tst : aT (aStore (f_op S x) (f_first S x) th b) = aT b := by
      unfold aStore
      simp only
      repeat' split
      all_goals rfl
    unfold w_work_J300
    refine ⟨(KV.dop (by rw [e52]; exact hx)).2.1, ?_⟩
    rw [(hV.sL.op h x).2.1]
    exact ⟨_, fn_store hV hf hf2 (fun u hu => hu), fun W hW => s312 W _ th hW (by rw [tst]; exact hb) hq⟩
  have s244 : ¬ 0 < (f_moved S (f_op S x)).toInt → ∀ (V : MS) (b : AS) (th : Int32), PA S b V → aT b = aT a → (∀ u, PA S (aW1 (f_op S x) (f_first S x) (qI S (f_takesOf S x + 1)) (qN S (f_takesOf S x + 1)) (qI S (f_givesOf S x + 1)) (qN S (f_givesOf S x + 1)) th b) u → Q u) → w_work_J244 Q V x (f_op S x) th := fun hmv V b th hV hb hq => by
    have eT : tkV S x = plS S (f_takesOf S x) := by unfold tkV; rw [if_neg hmv]
    have eG : gvV S x = plS S (f_givesOf S x) := by unfold gvV; rw [if_neg hmv]
    have KV := h.mv hV.sL
    have e52 : qI V 0 52 = qI S 0 52 := (hV.sL.2 52 (by decide) (by decide)).1
    obtain ⟨k1, k2, k3, k4, k5⟩ := tk
    have tT := t_takes (g := qI S (f_takesOf S x + 1)) (qN S (f_takesOf S x + 1)) b k3 (by unfold plS at eT; rw [hb, ← eT]; exact hT.1) (by rw [hb]; omega)
    have tT' : (aT (aTakes (qI S (f_takesOf S x + 1)) (qN S (f_takesOf S x + 1)) b)).toInt = (aT a).toInt - plS S (f_takesOf S x) := by rw [tT, hb]; rfl
    have L260 : ∀ (m : Nat) (W : MS) (k : Int32) (c : AS), PA S c W → (-1 ≤ k.toInt ∧ k.toInt < qN S (f_takesOf S x + 1)) → aTakes (qI S (f_takesOf S x + 1)) (k.toInt + 1).toNat c = aTakes (qI S (f_takesOf S x + 1)) (qN S (f_takesOf S x + 1)) b → plc (qI S (f_takesOf S x + 1)) (k.toInt + 1).toNat ≤ (aT c).toInt → (aT c).toInt ≤ 24 → (k.toInt + 1).toNat < m → w_work_L260 Q m W x (f_op S x) th (f_takesOf S x) k := by
      intro m
      induction m with
      | zero => intro W k c _ _ _ _ _ h9; exact absurd h9 (Nat.not_lt_zero _)
      | succ m ih =>
        intro W k c hW hk he hpl hc24 hm
        have z := hW.sL.1.1 (f_takesOf S x + 1) k1
        unfold w_work_L260
        rw [z.2.2.2.2]
        refine ⟨fun c1 => ?_, fun c1 => ⟨⟨by omega, by omega⟩, ?_⟩⟩
        · have e0 : (k.toInt + 1).toNat = 0 := by omega
          rw [e0] at he
          have ec : c = aTakes (qI S (f_takesOf S x + 1)) (qN S (f_takesOf S x + 1)) b := he
          have hr : 0 ≤ (aT c).toInt ∧ (aT c).toInt + plS S (f_givesOf S x) ≤ 28 := by rw [ec, tT']; omega
          have fin : ∀ u, PA S (aGives (qI S (f_givesOf S x + 1)) th 0 (qN S (f_givesOf S x + 1)) (if (f_op S x).toInt = 54 ∨ (f_op S x).toInt = 55 ∨ (f_op S x).toInt = 58 then aStore (f_op S x) (f_first S x) th c else c)) u → Q u := fun u hu => hq u (by unfold aW1; rw [← ec]; exact hu)
          have yes : ((f_op S x).toInt = 54 ∨ (f_op S x).toInt = 55 ∨ (f_op S x).toInt = 58) → w_work_J300 Q W x (f_op S x) th := fun o => s300 W c th hW hr o (by rw [if_pos o] at fin; exact fin)
          exact ⟨fun o => yes (Or.inl o), fun o1 => ⟨fun o => yes (Or.inr (Or.inl o)), fun o2 => ⟨fun o => yes (Or.inr (Or.inr o)), fun o3 => s312 W c th hW hr (by rw [if_neg (by omega)] at fin; exact fin)⟩⟩⟩
        · have hl := k3 k.toInt.toNat (by omega)
          have ec : cAt W (f_takesOf S x) k = qI S (f_takesOf S x + 1) k.toInt.toNat := by
            unfold cAt
            rw [z.1]
            exact (asc (by omega) (by omega)).2.2
          rw [ec]
          have en : (k.toInt + 1).toNat = k.toInt.toNat + 1 := by omega
          rw [en] at he hpl
          have pk : plc (qI S (f_takesOf S x + 1)) (k.toInt.toNat + 1) = plc (qI S (f_takesOf S x + 1)) k.toInt.toNat + if (qI S (f_takesOf S x + 1) k.toInt.toNat).toInt = 74 then 2 else 1 := rfl
          have p0 := plc_ge (g := qI S (f_takesOf S x + 1)) k.toInt.toNat
          have c12 : (if (qI S (f_takesOf S x + 1) k.toInt.toNat).toInt = 74 then (2 : Int) else 1) ≤ (aT c).toInt := by omega
          have c1' : 1 ≤ (aT c).toInt := by
            by_cases w : (qI S (f_takesOf S x + 1) k.toInt.toNat).toInt = 74
            · rw [if_pos w] at c12; omega
            · rw [if_neg w] at c12; omega
          have tt := t_take (c := qI S (f_takesOf S x + 1) k.toInt.toNat) (a := c) ⟨c1', by omega⟩ hl
          refine ⟨_, fn_take hW ⟨c1', by omega⟩ ?_ (fun u hu => hu), fun X hX a40 e40 => ?_⟩
          · by_cases w : (qI S (f_takesOf S x + 1) k.toInt.toNat).toInt = 74
            · rw [if_pos w] at c12; omega
            · omega
          · have lm : (Int32.ofInt (-1)).toInt = -1 := by decide
            have ek : a40.toInt = k.toInt - 1 := by rw [e40, t_add (by rw [lm]; omega), lm]; omega
            refine ih X a40 _ hX ⟨by omega, by omega⟩ ?_ ?_ ?_ (by omega)
            · rw [ek, show (k.toInt - 1 + 1).toNat = k.toInt.toNat by omega, ← he]
              rfl
            · rw [ek, show (k.toInt - 1 + 1).toNat = k.toInt.toNat by omega, tt]
              omega
            · rw [tt]
              by_cases w : (qI S (f_takesOf S x + 1) k.toInt.toNat).toInt = 74
              · rw [if_pos w]; omega
              · rw [if_neg w]; omega
    unfold w_work_J244
    refine ⟨KV.dtk (by rw [e52]; exact hx), fun a18 e18 => ?_⟩
    have z := hV.sL.1.1 (f_takesOf S x + 1) k1
    rw [(hV.sL.tg h x).1, z.2.2.2.2] at e18
    rw [(hV.sL.tg h x).1]
    have e : a18.toInt = qN S (f_takesOf S x + 1) - 1 := by rw [e18, t_sub (by rw [oN (by omega), li_1]; omega), oN (by omega), li_1]
    refine ⟨_, L260 _ V a18 b hV ⟨by omega, by omega⟩ ?_ ?_ (by rw [hb]; exact hT.2.1) (Nat.lt_succ_self _)⟩
    · rw [e, show ((qN S (f_takesOf S x + 1) : Int) - 1 + 1).toNat = qN S (f_takesOf S x + 1) by omega]
    · rw [e, show ((qN S (f_takesOf S x + 1) : Int) - 1 + 1).toNat = qN S (f_takesOf S x + 1) by omega, hb]
      have : plc (qI S (f_takesOf S x + 1)) (qN S (f_takesOf S x + 1)) = tkV S x := eT.symm
      omega
  -- the middle part: op, first as they stand
  have mid : ¬ 0 < (f_moved S (f_op S x)).toInt → ∀ (V : MS) (b : AS) (th : Int32), PA S b V → aT b = aT a → (∀ u, PA S (aW1 (f_op S x) (f_first S x) (qI S (f_takesOf S x + 1)) (qN S (f_takesOf S x + 1)) (qI S (f_givesOf S x + 1)) (qN S (f_givesOf S x + 1)) th (aW2 (f_op S x) (f_first S x) (rmV S (f_op S x) p) b)) u → Q u) → w_work_J85 Q V x p (f_op S x) th := fun hmv V b th hV hb hq => by
    -- returns
    have s166 : ∀ (W : MS) (c : AS), PA S c W → aT c = aT a → (∀ u, PA S (aW1 (f_op S x) (f_first S x) (qI S (f_takesOf S x + 1)) (qN S (f_takesOf S x + 1)) (qI S (f_givesOf S x + 1)) (qN S (f_givesOf S x + 1)) th (if (f_op S x).toInt = 172 ∨ (f_op S x).toInt = 173 ∨ (f_op S x).toInt = 176 ∨ (f_op S x).toInt = 177 then aNeed (rmV S (f_op S x) p) c else c)) u → Q u) → w_work_J166 Q W x p (f_op S x) th := fun W c hW hc hq2 => by
      have s194 : ((f_op S x).toInt = 172 ∨ (f_op S x).toInt = 173 ∨ (f_op S x).toInt = 176 ∨ (f_op S x).toInt = 177) → w_work_J194 Q W x p (f_op S x) th := fun o => by
        have s238 : ∀ t : Nat, okH S (t + 1) → sEq S p t = rmV S (f_op S x) p → w_work_J238 Q W t p x (f_op S x) th := fun t t92 et => by
          unfold w_work_J238
          rw [hW.sL.sE hp t92, et]
          exact ⟨_, fn_need hW, fun X hX => s244 hmv X _ th hX hc (by rw [if_pos o] at hq2; exact hq2)⟩
        unfold w_work_J194
        exact ⟨fun q => s238 _ (tx_tk ht (i := 8) (s := 10000016) (by decide) (by decide) rfl).1 (by unfold rmV; rw [if_pos q]), fun q1 => ⟨fun q => s238 _ (tx_tk ht (i := 11) (s := 10000022) (by decide) (by decide) rfl).1 (by unfold rmV; rw [if_neg q1, if_pos q]), fun q2 => ⟨fun q => s238 _ (tx_tk ht (i := 14) (s := 10000028) (by decide) (by decide) rfl).1 (by unfold rmV; rw [if_neg q1, if_neg q2, if_pos q]), fun q3 => s238 _ (tx_tk ht (i := 16) (s := 10000032) (by decide) (by decide) rfl).1 (by unfold rmV; rw [if_neg q1, if_neg q2, if_neg q3])⟩⟩⟩
      unfold w_work_J166
      exact ⟨fun q => s194 (Or.inl q), fun q1 => ⟨fun q => s194 (Or.inr (Or.inl q)), fun q2 => ⟨fun q => s194 (Or.inr (Or.inr (Or.inl q))), fun q3 => ⟨fun q => s194 (Or.inr (Or.inr (Or.inr q))), fun q4 => s244 hmv W c th hW hc (by rw [if_neg (by omega)] at hq2; exact hq2)⟩⟩⟩⟩
    -- a long is loaded
    have s121 : ∀ (W : MS) (c : AS), PA S c W → aT c = aT a → (∀ u, PA S (aW1 (f_op S x) (f_first S x) (qI S (f_takesOf S x + 1)) (qN S (f_takesOf S x + 1)) (qI S (f_givesOf S x + 1)) (qN S (f_givesOf S x + 1)) th (if (f_op S x).toInt = 172 ∨ (f_op S x).toInt = 173 ∨ (f_op S x).toInt = 176 ∨ (f_op S x).toInt = 177 then aNeed (rmV S (f_op S x) p) (if (f_op S x).toInt = 22 then aNeed (if (aL c (f_first S x).toInt.toNat).toInt = 2 then (if (aL c (f_first S x + 1).toInt.toNat).toInt = 3 then 1 else 0) else 0) c else c) else (if (f_op S x).toInt = 22 then aNeed (if (aL c (f_first S x).toInt.toNat).toInt = 2 then (if (aL c (f_first S x + 1).toInt.toNat).toInt = 3 then 1 else 0) else 0) c else c))) u → Q u) → w_work_J121 Q W x p (f_op S x) th := fun W c hW hc hq2 => by
      have KW := h.mv hW.sL
      have e52 : qI W 0 52 = qI S 0 52 := (hW.sL.2 52 (by decide) (by decide)).1
      have df := (KW.dop (x := x) (by rw [e52]; exact hx)).2.1
      unfold w_work_J121
      rw [(hW.sL.op h x).2.1, hW.l.1]
      refine ⟨fun q => ?_, fun q => s166 W c hW hc (by rw [if_neg q] at hq2; exact hq2)⟩
      have hf := v5 (Or.inl q)
      have ef : (f_first S x + (1 : Int32)).toInt = (f_first S x).toInt + 1 := by rw [t_add (by rw [li_1]; omega), li_1]
      have s163 : ∀ t : Int32, t = (if (aL c (f_first S x).toInt.toNat).toInt = 2 then (if (aL c (f_first S x + 1).toInt.toNat).toInt = 3 then 1 else 0) else 0) → w_work_J163 Q W t x p (f_op S x) th := fun t et => by
        unfold w_work_J163
        exact ⟨_, fn_need hW, fun X hX => s166 X _ hX hc (by rw [if_pos q, ← et] at hq2; exact hq2)⟩
      unfold w_work_J162
      exact ⟨df, ⟨by omega, by omega⟩, fun c1 => ⟨df, ⟨by omega, by omega⟩, fun c2 => s163 1 (by rw [if_pos c1, if_pos c2]), fun c2 => s163 0 (by rw [if_pos c1, if_neg c2])⟩, fun c1 => s163 0 (by rw [if_neg c1])⟩
    unfold aW2 at hq
    simp only at hq
    -- an int is loaded, or grows
    have KV := h.mv hV.sL
    have e52 : qI V 0 52 = qI S 0 52 := (hV.sL.2 52 (by decide) (by decide)).1
    have df := (KV.dop (x := x) (by rw [e52]; exact hx)).2.1
    have s98 : ((f_op S x).toInt = 21 ∨ (f_op S x).toInt = 132) → w_work_J98 Q V x p (f_op S x) th := fun o => by
      have hf := v4 (by omega)
      have s118 : ∀ t : Int32, t = (if (aL b (f_first S x).toInt.toNat).toInt = 1 then 1 else 0) → w_work_J118 Q V t x p (f_op S x) th := fun t et => by
        unfold w_work_J118
        exact ⟨_, fn_need hV, fun X hX => s121 X _ hX hb (by rw [if_pos o, ← et] at hq; exact hq)⟩
      unfold w_work_J98
      rw [(hV.sL.op h x).2.1, hV.l.1]
      exact ⟨df, ⟨by omega, by omega⟩, fun c => s118 1 (by rw [if_pos c]), fun c => s118 0 (by rw [if_neg c])⟩
    unfold w_work_J85
    exact ⟨fun c => s98 (Or.inl c), fun c1 => ⟨fun c => s98 (Or.inr c), fun c2 => s121 V b hV hb (by rw [if_neg (show ¬ ((f_op S x).toInt = 21 ∨ (f_op S x).toInt = 132) by omega)] at hq; exact hq)⟩⟩
  -- the beginning
  have hQ' := hQ
  unfold wkV aWork at hQ'
  simp only at hQ'
  unfold w_work
  intro A eA
  have hA : PA S (aL a, aP a, aT a, 1) A := by
    obtain ⟨l1, l2, l3, l4⟩ := hU.l
    refine ⟨hU.1.tr (by rw [eA]; exact frm.pI0 (by decide)), ?_⟩
    unfold absS
    rw [show qI A 25 = aL a by rw [eA, rdH (by decide), l1], show qI A 26 = aP a by rw [eA, rdH (by decide), l2], show qI A 0 62 = aT a by rw [eA, qI_wI, if_neg (by decide), l3], show qI A 0 63 = 1 by rw [eA, qI_wI, if_pos ⟨rfl, rfl⟩]]
  have sA := hA.sL
  have KA := h.mv sA
  have e52 : qI A 0 52 = qI S 0 52 := (sA.2 52 (by decide) (by decide)).1
  have hxA : 0 ≤ x.toInt ∧ x.toInt < (qI A 0 52).toInt := by rw [e52]; exact hx
  have mvI : 0 < (f_moved S (f_op S x)).toInt ↔ ((f_op S x).toInt = 87 ∨ (f_op S x).toInt = 88 ∨ (f_op S x).toInt = 89 ∨ (f_op S x).toInt = 90 ∨ (f_op S x).toInt = 92 ∨ (f_op S x).toInt = 95) := by
    unfold f_moved f_moved_J12 f_moved_J40
    by_cases z1 : (f_op S x).toInt = 87
    · rw [if_pos z1]; simp [z1]
    · rw [if_neg z1]
      by_cases z2 : (f_op S x).toInt = 89
      · rw [if_pos z2]; simp [z2]
      · rw [if_neg z2]
        by_cases z3 : (f_op S x).toInt = 88
        · rw [if_pos z3]; simp [z3]
        · rw [if_neg z3]
          by_cases z4 : (f_op S x).toInt = 90
          · rw [if_pos z4]; simp [z4]
          · rw [if_neg z4]
            by_cases z5 : (f_op S x).toInt = 92
            · rw [if_pos z5]; simp [z5]
            · rw [if_neg z5]
              by_cases z6 : (f_op S x).toInt = 95
              · rw [if_pos z6]; simp [z6]
              · rw [if_neg z6]; simp [z1, z2, z3, z4, z5, z6]
  refine ⟨(KA.dop hxA).1, fun a5 e5 => ⟨(b_mv (S := A)).2.2.2.2.1, ?_⟩⟩
  rw [(sA.op h x).1] at e5
  subst e5
  have fmA : f_moved A (f_op S x) = f_moved S (f_op S x) := rfl
  rw [fmA]
  refine ⟨fun c => ?_, fun c => ?_⟩
  · have nm : ¬ ((f_op S x).toInt = 87 ∨ (f_op S x).toInt = 88 ∨ (f_op S x).toInt = 89 ∨ (f_op S x).toInt = 90 ∨ (f_op S x).toInt = 92 ∨ (f_op S x).toInt = 95) := fun q => by have := mvI.mpr q; omega
    rw [if_neg nm] at hQ'
    have hmv : ¬ 0 < (f_moved S (f_op S x)).toInt := by omega
    have s45 : ∀ t : Int32, ((f_op S x).toInt ≠ 25 → t = (if (f_op S x).toInt = 58 then aTop (aL a, aP a, aT a, 1) else 0)) → w_work_J45 Q A t x p (f_op S x) := fun t et => by
      have s74 : ∀ (W : MS) (c : AS) (th1 : Int32), PA S c W → aT c = aT a → th1 = (if (f_op S x).toInt = 25 then aL (aL a, aP a, aT a, 1) (f_first S x).toInt.toNat else if (f_op S x).toInt = 58 then aTop (aL a, aP a, aT a, 1) else 0) → c = (if (f_op S x).toInt = 25 then aNeed (isTh th1) (aL a, aP a, aT a, 1) else (aL a, aP a, aT a, 1)) → w_work_J74 Q W x p (f_op S x) th1 := fun W c th1 hW hc e1 ec => by
        rw [← e1, ← ec] at hQ'
        unfold w_work_J74
        refine ⟨(f_th (S := W)).2, ?_⟩
        rw [(f_th (S := W)).1]
        exact ⟨fun q => mid hmv W c 0 hW hc (by rw [if_pos q] at hQ'; exact hQ'), fun q => mid hmv W c th1 hW hc (by rw [if_neg q] at hQ'; exact hQ')⟩
      unfold w_work_J45
      rw [(sA.op h x).2.1, hA.l.1]
      refine ⟨fun q => ?_, fun q => s74 A _ t hA rfl (by rw [if_neg q]; exact et q) (if_neg q).symm⟩
      have hf := v4 (by omega)
      refine ⟨(KA.dop hxA).2.1, ⟨by omega, by omega⟩, fun a91 e91 => ⟨(f_th (S := A)).2, ?_⟩⟩
      rw [(f_th (S := A)).1]
      exact ⟨_, fn_need hA, fun W hW => s74 W _ a91 hW rfl (by rw [if_pos q, e91]) (if_pos q).symm⟩
    refine ⟨fun q => ?_, fun q => s45 0 (fun _ => by rw [if_neg q])⟩
    have l3 : qI A 0 62 = aT a := hA.l.2.2.1
    have l2 : qI A 26 = aP a := hA.l.2.1
    rw [l3, l2]
    have t58 : 1 ≤ (aT a).toInt := by
      have e58 : tkV S x = plS S (f_takesOf S x) := by unfold tkV; rw [if_neg hmv]
      have ft : f_takesOf S x = 10000024 := by
        unfold f_takesOf f_takesOf_J18 f_takesOf_J47 f_takesOf_J75 f_takesOf_J93 f_takesOf_J111
        rw [if_pos (by omega), if_pos (by omega), if_pos (by omega), if_pos (by omega), if_pos (by omega), if_neg (by omega), if_neg (by omega), if_neg (by omega), if_pos q]
      have n1 : qN S (10000024 + 1) = 1 := (ht 12 (by decide)).2.1
      have := plc_ge (g := qI S (10000024 + 1)) 1
      rw [ft] at e58
      unfold plS at e58
      rw [n1] at e58
      omega
    have e1 : (aT a - (1 : Int32)).toInt = (aT a).toInt - 1 := by rw [t_sub (by rw [li_1]; omega), li_1]
    exact ⟨⟨by omega, by omega⟩, s45 _ (fun _ => by rw [if_pos q]; rfl)⟩
  · have ym := mvI.mp (by omega)
    rw [if_pos ym] at hQ'
    have eT : tkV S x = (f_moved S (f_op S x)).toInt := by unfold tkV; rw [if_pos (by omega)]
    exact ⟨_, fn_move hA ym ⟨by show _ ≤ (aT a).toInt; omega, hT.2.1⟩ hQ', fun u hu => hu⟩
/-! heightAt, takeOf, join (behind fn_work) -/
def lowF (v : Int32) : Nat → Nat → Nat
  | 0, k => k
  | m + 1, k => if bt v k = true then k else lowF v m (k + 1)
def htV (v : Int32) : Int := if v.toInt = 0 then -1 else if (v &&& (v - 1)).toInt = 0 then (lowF v 32 0 : Int) else -1
theorem lowF_ok {v : Int32} : ∀ (m k : Nat), (∃ j : Nat, k ≤ j ∧ j < k + m ∧ bt v j = true) → bt v (lowF v m k) = true ∧ k ≤ lowF v m k ∧ lowF v m k < k + m ∧ ∀ j : Nat, k ≤ j → j < lowF v m k → ¬ bt v j = true := by
  intro m
  induction m with
  | zero => rintro k ⟨j, a, b, c⟩; omega
  | succ m ih =>
    rintro k ⟨j, a, b, c⟩
    unfold lowF
    by_cases z : bt v k = true
    · rw [if_pos z]
      exact ⟨z, Nat.le_refl _, by omega, fun j a b => by omega⟩
    · rw [if_neg z]
      have ne : j ≠ k := fun q => z (by rw [← q]; exact c)
      obtain ⟨p, q, r, s⟩ := ih (k + 1) ⟨j, by omega, by omega, c⟩
      refine ⟨p, by omega, by omega, fun i a b => ?_⟩
      by_cases w : i = k
      · rw [w]; exact z
      · exact s i (by omega) b
theorem bt_ex {v : Int32} (h : ¬ v.toInt = 0) : ∃ j : Nat, 0 ≤ j ∧ j < 0 + 32 ∧ bt v j = true := by
  by_cases w : ∃ j : Nat, j < 32 ∧ bt v j = true
  · obtain ⟨j, a, b⟩ := w
    exact ⟨j, Nat.zero_le _, by omega, b⟩
  · refine absurd ?_ h
    have : v = 0 := bt_ext (fun k hk => by
      by_cases z : bt v k = true
      · exact absurd ⟨k, hk, z⟩ w
      · rw [Bool.eq_false_iff.mpr z]
        unfold bt
        rw [show (0 : Int32).toBitVec = 0#32 from rfl, BitVec.getLsbD_zero])
    rw [this]; rfl
theorem htV_ok {v : Int32} (h : 0 ≤ htV v) : bt v (htV v).toNat = true ∧ htV v ≤ 31 ∧ ¬ v.toInt = 0 := by
  unfold htV at h ⊢
  by_cases c1 : v.toInt = 0
  · rw [if_pos c1] at h; omega
  · rw [if_neg c1] at h ⊢
    by_cases c2 : (v &&& (v - 1)).toInt = 0
    · rw [if_pos c2]
      obtain ⟨a, b, c, d⟩ := lowF_ok 32 0 (bt_ex c1)
      exact ⟨a, by omega, c1⟩
    · rw [if_neg c2] at h; omega
theorem bt_test0 {v h : Int32} (h0 : 0 ≤ h.toInt) (h1 : h.toInt ≤ 31) : (((v >>> (h &&& 31)) &&& (1 : Int32)).toInt = 0 ↔ ¬ bt v h.toInt.toNat = true) := by
  have k := c_and (z := (v >>> (h &&& 31)) &&& (1 : Int32)) (k := 1) (b := 2) rfl (by decide) (by decide) rfl
  have e := bt_test (v := v) h0 h1
  constructor
  · intro q z
    have := e.mpr z
    omega
  · intro q
    by_cases z : ((v >>> (h &&& 31)) &&& (1 : Int32)).toInt = 1
    · exact absurd (e.mp z) q
    · omega
theorem fn_ht {S : MS} {x : Int32} (hx : 0 ≤ x.toInt ∧ x.toInt < 9600) : w_heightAt S x (fun r u => u = S ∧ r.toInt = htV (qI S 22 x.toInt.toNat)) := by
  have l1 : (-1 : Int32).toInt = -1 := by decide
  unfold w_heightAt
  refine ⟨hx, fun c => ⟨rfl, by unfold htV; rw [if_pos c, l1]⟩, fun c => ⟨hx, hx, fun c2 => ?_, fun c2 => ⟨rfl, by unfold htV; rw [if_neg c, if_neg c2, l1]⟩⟩⟩
  obtain ⟨p1, p2, p3, p4⟩ := lowF_ok 32 0 (bt_ex c)
  have eh : htV (qI S 22 x.toInt.toNat) = (lowF (qI S 22 x.toInt.toNat) 32 0 : Int) := by unfold htV; rw [if_neg c, if_pos c2]
  have L : ∀ (m : Nat) (y : Int32), (0 ≤ y.toInt ∧ y.toInt ≤ (lowF (qI S 22 x.toInt.toNat) 32 0 : Int)) → (32 - y.toInt).toNat < m → w_heightAt_L31 (fun r u => u = S ∧ r.toInt = htV (qI S 22 x.toInt.toNat)) m S x y := by
    intro m
    induction m with
    | zero => intro y _ h9; exact absurd h9 (Nat.not_lt_zero _)
    | succ m ih =>
      intro y hy hm
      have ey : (y + Int32.ofInt 1).toInt = y.toInt + 1 := by rw [t_add (by rw [lo_1]; omega), lo_1]
      unfold w_heightAt_L31
      refine ⟨hx, fun z a ea => ?_, fun z => ⟨rfl, ?_⟩⟩
      · subst ea
        have nz := (bt_test0 hy.1 (by omega)).mp z
        have ne : y.toInt.toNat ≠ lowF (qI S 22 x.toInt.toNat) 32 0 := fun q => nz (by rw [q]; exact p1)
        exact ih _ ⟨by omega, by omega⟩ (by omega)
      · rw [eh]
        by_cases w : y.toInt.toNat < lowF (qI S 22 x.toInt.toNat) 32 0
        · exact absurd ((bt_test0 hy.1 (by omega)).mpr (p4 _ (Nat.zero_le _) w)) z
        · omega
  exact ⟨_, L _ 0 ⟨by decide, by rw [li_0]; omega⟩ (Nat.lt_succ_self _)⟩
def hfV (S : MS) (x : Int32) : Prop := ¬ (qI S 22 x.toInt.toNat).toInt = 0 ∧ (htV (qI S 22 x.toInt.toNat) < 0 ∨ ¬ rgV S x (htV (qI S 22 x.toInt.toNat)))
theorem fn_hf {S : MS} {x : Int32} (h : LkI S) (ht : TxI S) (hx : 0 ≤ x.toInt ∧ x.toInt < (qI S 0 52).toInt) : w_isHeightFault S x (fun r u => u = S ∧ (r.toInt ≠ 0 ↔ hfV S x)) := by
  have kc := h.cnt
  unfold w_isHeightFault w_isHeightFault_J34 w_isHeightFault_J30
  refine ⟨⟨hx.1, by omega⟩, fun c => ⟨rfl, ⟨fun q => absurd rfl q, fun q => absurd c q.1⟩⟩, fun c => ⟨_, fn_ht ⟨hx.1, by omega⟩, ?_⟩⟩
  rintro r u ⟨rfl, er⟩
  refine ⟨fun q => ⟨rfl, ⟨fun _ => ⟨c, Or.inl (by omega)⟩, fun _ => by decide⟩⟩, fun q => ⟨_, fn_ht ⟨hx.1, by omega⟩, ?_⟩⟩
  rintro r2 u2 ⟨rfl, er2⟩
  have hk := htV_ok (v := qI u2 22 x.toInt.toNat) (by omega)
  refine ⟨_, fn_rg h hx ht ⟨by omega, by omega⟩, ?_⟩
  rintro r3 u3 ⟨rfl, er3⟩
  rw [er2] at er3
  refine ⟨fun z => ⟨rfl, ⟨fun _ => ⟨c, Or.inr (fun w => er3.mpr w z)⟩, fun _ => by decide⟩⟩, fun z => ⟨rfl, ⟨fun w => absurd rfl w, fun w => ?_⟩⟩⟩
  rcases w.2 with w | w
  · omega
  · exact absurd (er3.mp z) w
/-- the types that stand at x are taken up -/
def TkO (S : MS) (x : Int32) (y : Int32) (u : MS) : Prop := frm [25, 26] [62] S u ∧ (∀ k : Nat, k < 24 → qI u 25 k = vp_nar .byte (qI S 23 (48 * x.toInt.toNat + k))) ∧ (∀ k : Nat, (k : Int) < y.toInt → qI u 26 k = vp_nar .byte (qI S 23 (48 * x.toInt.toNat + 24 + k))) ∧ qI u 0 62 = y
theorem sp_takeOf {S : MS} {x y : Int32} (hx : 0 ≤ x.toInt ∧ x.toInt < 1200) (hy : 0 ≤ y.toInt ∧ y.toInt ≤ 24) : w_takeOf S x y (TkO S x y) := by
  have l48 : (48 : Int32).toInt = 48 := by decide
  have l24 : (24 : Int32).toInt = 24 := by decide
  have e48 : ((48 : Int32) * x).toInt = 48 * x.toInt := by rw [t_mul (by rw [l48]; omega), l48]
  have e72 : ((48 : Int32) * x + (24 : Int32)).toInt = 48 * x.toInt + 24 := by rw [t_add (by rw [e48, l24]; omega), e48, l24]
  have L33 : ∀ (m : Nat) (U : MS) (k : Int32), (0 ≤ k.toInt ∧ k.toInt ≤ y.toInt) → frm [25, 26] [62] S U → qI U 23 = qI S 23 → (∀ j : Nat, j < 24 → qI U 25 j = vp_nar .byte (qI S 23 (48 * x.toInt.toNat + j))) → (∀ j : Nat, (j : Int) < k.toInt → qI U 26 j = vp_nar .byte (qI S 23 (48 * x.toInt.toNat + 24 + j))) → (24 - k.toInt).toNat < m → w_takeOf_L33 (TkO S x y) m U x y k := by
    intro m
    induction m with
    | zero => intro U k _ _ _ _ _ h9; exact absurd h9 (Nat.not_lt_zero _)
    | succ m ih =>
      intro U k hk fU u23 h25 h26 hm
      have ek : (k + Int32.ofInt 1).toInt = k.toInt + 1 := by rw [t_add (by rw [lo_1]; omega), lo_1]
      have ea : ((48 : Int32) * x + (24 : Int32) + k).toInt = 48 * x.toInt + 24 + k.toInt := by rw [t_add (by omega), e72]
      unfold w_takeOf_L33
      rw [ea, u23]
      refine ⟨fun c A eA => ⟨fU.tr (by rw [eA]; exact frm.pI0 (by decide)), fun j hj => by rw [eA, rdH (by decide)]; exact h25 j hj, fun j hj => by rw [eA, rdH (by decide)]; exact h26 j (by omega), by rw [eA, qI_wI, if_pos ⟨rfl, rfl⟩]⟩, fun c => ⟨⟨by omega, by omega⟩, ⟨hk.1, by omega⟩, fun A eA a ea' => ?_⟩⟩
      subst ea'
      refine ih A _ ⟨by omega, by omega⟩ (fU.tr (by rw [eA]; exact frm.pI (by decide))) (by rw [eA, rdH (by decide), u23]) (fun j hj => by rw [eA, rdH (by decide)]; exact h25 j hj) (fun j hj => ?_) (by omega)
      rw [eA, qI_wI]
      by_cases z : j = k.toInt.toNat
      · rw [if_pos ⟨rfl, z⟩, z, show (48 * x.toInt + 24 + k.toInt).toNat = 48 * x.toInt.toNat + 24 + k.toInt.toNat by omega]
      · rw [if_neg (fun q => z q.2)]
        exact h26 j (by omega)
  have L2 : ∀ (m : Nat) (U : MS) (k : Int32), (0 ≤ k.toInt ∧ k.toInt ≤ 24) → frm [25, 26] [62] S U → qI U 23 = qI S 23 → (∀ j : Nat, (j : Int) < k.toInt → qI U 25 j = vp_nar .byte (qI S 23 (48 * x.toInt.toNat + j))) → (24 - k.toInt).toNat < m → w_takeOf_L2 (TkO S x y) m U x y k := by
    intro m
    induction m with
    | zero => intro U k _ _ _ _ h9; exact absurd h9 (Nat.not_lt_zero _)
    | succ m ih =>
      intro U k hk fU u23 h25 hm
      have ek : (k + Int32.ofInt 1).toInt = k.toInt + 1 := by rw [t_add (by rw [lo_1]; omega), lo_1]
      have ea : ((48 : Int32) * x + k).toInt = 48 * x.toInt + k.toInt := by rw [t_add (by omega), e48]
      unfold w_takeOf_L2
      rw [ea, u23]
      refine ⟨fun c => ⟨_, L33 _ U 0 ⟨by decide, by rw [li_0]; exact hy.1⟩ fU u23 (fun j hj => h25 j (by omega)) (fun j hj => by rw [li_0] at hj; omega) (Nat.lt_succ_self _)⟩, fun c => ⟨⟨by omega, by omega⟩, ⟨hk.1, by omega⟩, fun A eA a ea' => ?_⟩⟩
      subst ea'
      refine ih A _ ⟨by omega, by omega⟩ (fU.tr (by rw [eA]; exact frm.pI (by decide))) (by rw [eA, rdH (by decide), u23]) (fun j hj => ?_) (by omega)
      rw [eA, qI_wI]
      by_cases z : j = k.toInt.toNat
      · rw [if_pos ⟨rfl, z⟩, z, show (48 * x.toInt + k.toInt).toNat = 48 * x.toInt.toNat + k.toInt.toNat by omega]
      · rw [if_neg (fun q => z q.2)]
        exact h25 j (by omega)
  unfold w_takeOf
  exact ⟨_, L2 _ S 0 (by decide) frm.rf rfl (fun j hj => by rw [li_0] at hj; omega) (Nat.lt_succ_self _)⟩
/-- how much a type can still fall -/
def rnk (v : Int32) : Nat := if v.toInt = 0 then 0 else if v.toInt = 6 then 2 else 1
def sbT (t o : Int32) : Prop := t.toInt = o.toInt ∨ o.toInt = 0 ∨ (t.toInt = 6 ∧ (o.toInt = 4 ∨ o.toInt = 5))
theorem jn_same {S : MS} {o t : Int32} (h : (f_joined S o t).toInt = o.toInt) : sbT t o := by
  unfold f_joined f_joined_J25 f_joined_J41 f_joined_J45 at h
  unfold sbT
  by_cases c1 : o.toInt = t.toInt
  · exact Or.inl c1.symm
  · rw [if_neg c1] at h
    by_cases c2 : o.toInt = 6
    · rw [if_pos c2] at h
      by_cases c3 : t.toInt = 4
      · rw [if_pos c3] at h; omega
      · rw [if_neg c3] at h
        by_cases c4 : t.toInt = 5
        · rw [if_pos c4] at h; omega
        · rw [if_neg c4, if_neg (by omega)] at h
          rw [li_0] at h; omega
    · rw [if_neg c2] at h
      by_cases c3 : t.toInt = 6
      · rw [if_pos c3] at h
        by_cases c4 : o.toInt = 4
        · exact Or.inr (Or.inr ⟨c3, Or.inl c4⟩)
        · rw [if_neg c4] at h
          by_cases c5 : o.toInt = 5
          · exact Or.inr (Or.inr ⟨c3, Or.inr c5⟩)
          · rw [if_neg c5, li_0] at h; omega
      · rw [if_neg c3, li_0] at h; omega
theorem jn_fall {S : MS} {o t : Int32} (h : ¬ (f_joined S o t).toInt = o.toInt) : rnk (vp_nar .byte ((f_joined S o t).toInt8.toInt32)) < rnk o := by
  have n0 : vp_nar .byte ((0 : Int32).toInt8.toInt32) = 0 := by decide
  have z0 : ¬ o.toInt = 0 → rnk 0 < rnk o := fun q => by
    unfold rnk
    rw [if_pos (by decide), if_neg q]
    split <;> decide
  unfold f_joined f_joined_J25 f_joined_J41 f_joined_J45 at h ⊢
  by_cases c1 : o.toInt = t.toInt
  · rw [if_pos c1] at h; exact absurd rfl h
  · rw [if_neg c1] at h ⊢
    by_cases c2 : o.toInt = 6
    · rw [if_pos c2] at h ⊢
      have r6 : rnk o = 2 := by unfold rnk; rw [if_neg (by omega), if_pos c2]
      by_cases c3 : t.toInt = 4
      · rw [if_pos c3]
        have : t = 4 := Int32.toInt_inj.mp (by rw [c3]; rfl)
        rw [this, r6]; decide
      · rw [if_neg c3] at h ⊢
        by_cases c4 : t.toInt = 5
        · rw [if_pos c4]
          have : t = 5 := Int32.toInt_inj.mp (by rw [c4]; rfl)
          rw [this, r6]; decide
        · rw [if_neg c4, if_neg (by omega), n0]; exact z0 (by omega)
    · rw [if_neg c2] at h ⊢
      by_cases c3 : t.toInt = 6
      · rw [if_pos c3] at h ⊢
        by_cases c4 : o.toInt = 4
        · rw [if_pos c4] at h; exact absurd rfl h
        · rw [if_neg c4] at h ⊢
          by_cases c5 : o.toInt = 5
          · rw [if_pos c5] at h; exact absurd rfl h
          · rw [if_neg c5] at h ⊢
            rw [n0]; exact z0 (fun q => h (by rw [q]; rfl))
      · rw [if_neg c3] at h ⊢
        rw [n0]; exact z0 (fun q => h (by rw [q]; rfl))
theorem sbT.rf {o : Int32} : sbT o o := Or.inl rfl
theorem sbT.tr {a b c : Int32} (h : sbT a b) (k : sbT b c) : sbT a c := by
  unfold sbT at h k ⊢
  omega
theorem jn_up {S : MS} {o t : Int32} (h : ¬ (f_joined S o t).toInt = o.toInt) : sbT o (vp_nar .byte ((f_joined S o t).toInt8.toInt32)) := by
  have n0 : vp_nar .byte ((0 : Int32).toInt8.toInt32) = 0 := by decide
  have z0 : sbT o 0 := Or.inr (Or.inl rfl)
  unfold f_joined f_joined_J25 f_joined_J41 f_joined_J45 at h ⊢
  by_cases c1 : o.toInt = t.toInt
  · rw [if_pos c1] at h; exact absurd rfl h
  · rw [if_neg c1] at h ⊢
    by_cases c2 : o.toInt = 6
    · rw [if_pos c2] at h ⊢
      by_cases c3 : t.toInt = 4
      · rw [if_pos c3]
        have : t = 4 := Int32.toInt_inj.mp (by rw [c3]; rfl)
        rw [this]; exact Or.inr (Or.inr ⟨c2, Or.inl (by decide)⟩)
      · rw [if_neg c3] at h ⊢
        by_cases c4 : t.toInt = 5
        · rw [if_pos c4]
          have : t = 5 := Int32.toInt_inj.mp (by rw [c4]; rfl)
          rw [this]; exact Or.inr (Or.inr ⟨c2, Or.inr (by decide)⟩)
        · rw [if_neg c4, if_neg (by omega), n0]; exact z0
    · rw [if_neg c2] at h ⊢
      by_cases c3 : t.toInt = 6
      · rw [if_pos c3] at h ⊢
        by_cases c4 : o.toInt = 4
        · rw [if_pos c4] at h; exact absurd rfl h
        · rw [if_neg c4] at h ⊢
          by_cases c5 : o.toInt = 5
          · rw [if_pos c5] at h; exact absurd rfl h
          · rw [if_neg c5] at h ⊢
            rw [n0]; exact z0
      · rw [if_neg c3] at h ⊢
        rw [n0]; exact z0
theorem d_jn {S : MS} {o t : Int32} : d_joined S o t := by
  unfold d_joined d_joined_J25 d_joined_J41 d_joined_J45
  simp only [ite_self]
def rwT (S : MS) (i : Nat) : Nat := sumN (fun k => rnk (qI S 23 (48 * i + k))) 48
def Mt (S : MS) : Nat := sumN (fun i => if (qI S 24 i).toInt = 0 then 200 else rwT S i) (qI S 0 52).toInt.toNat
theorem rw96 {S : MS} {i : Nat} : rwT S i ≤ 96 := by
  have : ∀ n : Nat, sumN (fun k => rnk (qI S 23 (48 * i + k))) n ≤ 2 * n := by
    intro n
    induction n with
    | zero => exact Nat.le_refl _
    | succ n ih =>
      unfold sumN
      have : rnk (qI S 23 (48 * i + n)) ≤ 2 := by
        unfold rnk
        by_cases a : (qI S 23 (48 * i + n)).toInt = 0
        · rw [if_pos a]; decide
        · rw [if_neg a]
          by_cases b : (qI S 23 (48 * i + n)).toInt = 6
          · rw [if_pos b]; decide
          · rw [if_neg b]; decide
      omega
  exact this 48
/-! join (behind fn_hf) -/
def tJ (S : MS) (hd : Int32) (k : Nat) : Int32 := if k < 24 then qI S 25 k else if hd.toInt = 0 then qI S 26 (k - 24) else 5
/-- what join leaves -/
def JoP (S : MS) (x hd : Int32) (u : MS) : Prop := frm [23, 24] [57] S u ∧ (∀ j : Nat, j ≠ x.toInt.toNat → qI u 24 j = qI S 24 j) ∧ (¬ (qI u 24 x.toInt.toNat).toInt = 0) ∧ (∀ p : Nat, ¬ (48 * x.toInt.toNat ≤ p ∧ p < 48 * x.toInt.toNat + 48) → qI u 23 p = qI S 23 p) ∧ ((qI u 0 57).toInt = 0 → (qI S 0 57).toInt = 0 ∧ qI u 23 = qI S 23 ∧ (¬ (qI S 24 x.toInt.toNat).toInt = 0) ∧ (0 ≤ htV (qI S 22 x.toInt.toNat) → ∀ k : Nat, (k : Int) < 24 + htV (qI S 22 x.toInt.toNat) → sbT (tJ S hd k) (qI S 23 (48 * x.toInt.toNat + k)))) ∧ Mt u ≤ Mt S ∧ ((qI S 0 57).toInt = 0 → ¬ (qI u 0 57).toInt = 0 → Mt u < Mt S) ∧ (¬ (qI S 24 x.toInt.toNat).toInt = 0 → ∀ k : Nat, k < 48 → sbT (qI S 23 (48 * x.toInt.toNat + k)) (qI u 23 (48 * x.toInt.toNat + k))) ∧ ((qI S 24 x.toInt.toNat).toInt = 0 → 0 ≤ htV (qI S 22 x.toInt.toNat) → ∀ k : Nat, (k : Int) < 24 + htV (qI S 22 x.toInt.toNat) → qI u 23 (48 * x.toInt.toNat + k) = vp_nar .byte ((tJ S hd k).toInt8.toInt32))
/-- the end of a join: come -/
theorem jo_end {S U : MS} {x t hd : Int32} (hc : x.toInt < (qI S 0 52).toInt) (hx : 0 ≤ x.toInt) (fU : frm [23] [57] S U) (hout : ∀ p : Nat, ¬ (48 * x.toInt.toNat ≤ p ∧ p < 48 * x.toInt.toNat + 48) → qI U 23 p = qI S 23 p) (hle : ¬ (qI S 24 x.toInt.toNat).toInt = 0 → rwT U x.toInt.toNat ≤ rwT S x.toInt.toNat) (hlt : ¬ (qI S 24 x.toInt.toNat).toInt = 0 → (qI S 0 57).toInt = 0 → ¬ t.toInt = 0 → rwT U x.toInt.toNat < rwT S x.toInt.toNat) (ht : t.toInt = 0 → (qI S 0 57).toInt = 0 ∧ qI U 23 = qI S 23 ∧ (¬ (qI S 24 x.toInt.toNat).toInt = 0) ∧ (0 ≤ htV (qI S 22 x.toInt.toNat) → ∀ k : Nat, (k : Int) < 24 + htV (qI S 22 x.toInt.toNat) → sbT (tJ S hd k) (qI S 23 (48 * x.toInt.toNat + k)))) (hmo : ¬ (qI S 24 x.toInt.toNat).toInt = 0 → ∀ k : Nat, k < 48 → sbT (qI S 23 (48 * x.toInt.toNat + k)) (qI U 23 (48 * x.toInt.toNat + k))) (hnw : (qI S 24 x.toInt.toNat).toInt = 0 → 0 ≤ htV (qI S 22 x.toInt.toNat) → ∀ k : Nat, (k : Int) < 24 + htV (qI S 22 x.toInt.toNat) → qI U 23 (48 * x.toInt.toNat + k) = vp_nar .byte ((tJ S hd k).toInt8.toInt32)) {A B : MS} (eA : A = wI U 0 57 t) (eB : B = wI A 24 x.toInt.toNat (vp_nar .boolean (1 : Int32))) : JoP S x hd B := by
  have n1 : (vp_nar .boolean (1 : Int32)).toInt = 1 := by decide
  have fB : frm [23, 24] [57] S B := (fU.mo (by decide) (by decide)).tr ((show frm [23, 24] [57] U A by rw [eA]; exact frm.pI0 (by decide)).tr (by rw [eB]; exact frm.pI (by decide)))
  have u24 : qI U 24 = qI S 24 := (fU.2.2.2.2.1 24 (by decide) (by decide)).1
  have b24 : ∀ j : Nat, qI B 24 j = if j = x.toInt.toNat then vp_nar .boolean (1 : Int32) else qI S 24 j := fun j => by
    rw [eB, qI_wI]
    by_cases z : j = x.toInt.toNat
    · rw [if_pos ⟨rfl, z⟩, if_pos z]
    · rw [if_neg (fun q => z q.2), if_neg z, eA, rdH (by decide), u24]
  have b23 : qI B 23 = qI U 23 := by rw [eB, rdH (by decide), eA, rdH (by decide)]
  have b57 : qI B 0 57 = t := by rw [eB, rdH (by decide), eA, qI_wI, if_pos ⟨rfl, rfl⟩]
  have b52 : qI B 0 52 = qI S 0 52 := (fB.2.2.2.2.2 52 (by decide)).1
  have rwB : ∀ j : Nat, rwT B j = rwT U j := fun j => by unfold rwT; rw [b23]
  have rwo : ∀ j : Nat, j ≠ x.toInt.toNat → rwT U j = rwT S j := fun j hj => sumN_eq 48 (fun k hk => by rw [hout _ (by omega)])
  have hup := sumN_upd (g := fun i => if (qI S 24 i).toInt = 0 then 200 else rwT S i) (g' := fun i => if (qI B 24 i).toInt = 0 then 200 else rwT B i) (i := x.toInt.toNat) (fun j hj => by
    show (if (qI B 24 j).toInt = 0 then 200 else rwT B j) = _
    rw [b24, if_neg hj, rwB, rwo j hj]) (qI S 0 52).toInt.toNat (by omega)
  have vB : (if (qI B 24 x.toInt.toNat).toInt = 0 then 200 else rwT B x.toInt.toNat) = rwT U x.toInt.toNat := by rw [b24, if_pos rfl, n1, if_neg (by decide), rwB]
  have h96 := rw96 (S := U) (i := x.toInt.toNat)
  have mle : Mt B ≤ Mt S ∧ ((qI S 0 57).toInt = 0 → ¬ t.toInt = 0 → Mt B < Mt S) := by
    unfold Mt
    rw [b52]
    rw [vB] at hup
    by_cases z : (qI S 24 x.toInt.toNat).toInt = 0
    · rw [if_pos z] at hup
      exact ⟨by omega, fun _ _ => by omega⟩
    · rw [if_neg z] at hup
      have := hle z
      exact ⟨by omega, fun p q => by have := hlt z p q; omega⟩
  refine ⟨fB, fun j hj => by rw [b24, if_neg hj], by rw [b24, if_pos rfl, n1]; decide, fun p hp => by rw [b23]; exact hout p hp, fun q => ?_, mle.1, fun p q => mle.2 p (by rw [b57] at q; exact q), by rw [b23]; exact hmo, by rw [b23]; exact hnw⟩
  rw [b57] at q
  rw [b23]
  exact ht q
theorem sp_join {S : MS} {x hd : Int32} (hN : (qI S 0 52).toInt ≤ 1200) (hx : 0 ≤ x.toInt ∧ x.toInt < (qI S 0 52).toInt) (hh : htV (qI S 22 x.toInt.toNat) ≤ 24) : w_join S x hd (JoP S x hd) := by
  have l48 : (48 : Int32).toInt = 48 := by decide
  have l24 : (24 : Int32).toInt = 24 := by decide
  have e48 : ((48 : Int32) * x).toInt = 48 * x.toInt := by rw [t_mul (by rw [l48]; omega), l48]
  unfold w_join
  refine ⟨_, fn_ht ⟨hx.1, by omega⟩, ?_⟩
  rintro r u ⟨rfl, er⟩
  refine ⟨fun c => ⟨_, fn_ht ⟨hx.1, by omega⟩, ?_⟩, fun c => ?_⟩
  · rintro y u2 ⟨rfl, ey⟩
    have e24 : ((24 : Int32) + y).toInt = 24 + y.toInt := by rw [t_add (by rw [l24]; omega), l24]
    have hy : 0 ≤ y.toInt ∧ y.toInt ≤ 24 := by omega
    -- the loop
    have L : ∀ (m : Nat) (U : MS) (k : Int32), (0 ≤ k.toInt ∧ k.toInt ≤ 24 + y.toInt) → frm [23] [57] u2 U → (∀ p : Nat, ¬ (48 * x.toInt.toNat ≤ p ∧ (p : Int) < 48 * x.toInt.toNat + k.toInt) → qI U 23 p = qI u2 23 p) → (¬ (qI u2 24 x.toInt.toNat).toInt = 0 → rwT U x.toInt.toNat ≤ rwT u2 x.toInt.toNat) → (¬ (qI u2 24 x.toInt.toNat).toInt = 0 → (qI u2 0 57).toInt = 0 → ¬ (qI U 0 57).toInt = 0 → rwT U x.toInt.toNat < rwT u2 x.toInt.toNat) → ((qI U 0 57).toInt = 0 → (qI u2 0 57).toInt = 0 ∧ qI U 23 = qI u2 23 ∧ (¬ (qI u2 24 x.toInt.toNat).toInt = 0 → ∀ j : Nat, (j : Int) < k.toInt → sbT (tJ u2 hd j) (qI u2 23 (48 * x.toInt.toNat + j)))) → (¬ (qI u2 24 x.toInt.toNat).toInt = 0 → ∀ j : Nat, j < 48 → sbT (qI u2 23 (48 * x.toInt.toNat + j)) (qI U 23 (48 * x.toInt.toNat + j))) → ((qI u2 24 x.toInt.toNat).toInt = 0 → ∀ j : Nat, (j : Int) < k.toInt → qI U 23 (48 * x.toInt.toNat + j) = vp_nar .byte ((tJ u2 hd j).toInt8.toInt32)) → (48 - k.toInt).toNat < m → w_join_L50 (JoP u2 x hd) m U x hd y k := by
      intro m
      induction m with
      | zero => intro U k _ _ _ _ _ _ _ _ h9; exact absurd h9 (Nat.not_lt_zero _)
      | succ m ih =>
        intro U k hk fU hout hle hlt hz hmo hnw hm
        have u24 : qI U 24 = qI u2 24 := (fU.2.2.2.2.1 24 (by decide) (by decide)).1
        have u25 : qI U 25 = qI u2 25 := (fU.2.2.2.2.1 25 (by decide) (by decide)).1
        have u26 : qI U 26 = qI u2 26 := (fU.2.2.2.2.1 26 (by decide) (by decide)).1
        have ek : (k + Int32.ofInt 1).toInt = k.toInt + 1 := by rw [t_add (by rw [lo_1]; omega), lo_1]
        have ea : ((48 : Int32) * x + k).toInt = 48 * x.toInt + k.toInt := by rw [t_add (by omega), e48]
        have en : (48 * x.toInt + k.toInt).toNat = 48 * x.toInt.toNat + k.toInt.toNat := by omega
        have hout' : ∀ p : Nat, ¬ (48 * x.toInt.toNat ≤ p ∧ p < 48 * x.toInt.toNat + 48) → qI U 23 p = qI u2 23 p := fun p hp => hout p (by omega)
        have s200 : 24 + y.toInt ≤ k.toInt → ∀ t : Int32, (¬ (qI u2 24 x.toInt.toNat).toInt = 0 → (qI u2 0 57).toInt = 0 → ¬ t.toInt = 0 → rwT U x.toInt.toNat < rwT u2 x.toInt.toNat) → (t.toInt = 0 → (qI u2 0 57).toInt = 0 ∧ qI U 23 = qI u2 23 ∧ (¬ (qI u2 24 x.toInt.toNat).toInt = 0) ∧ (0 ≤ htV (qI u2 22 x.toInt.toNat) → ∀ k : Nat, (k : Int) < 24 + htV (qI u2 22 x.toInt.toNat) → sbT (tJ u2 hd k) (qI u2 23 (48 * x.toInt.toNat + k)))) → w_join_J200 (JoP u2 x hd) U t x := fun kend t a b => by
          unfold w_join_J200
          exact fun A eA => ⟨⟨hx.1, by omega⟩, fun B eB => jo_end hx.2 hx.1 fU hout' hle a b hmo (fun z _ j hj => hnw z j (by omega)) eA eB⟩
        -- one place is done
        have s172 : ∀ V : MS, frm [23] [57] u2 V → (∀ p : Nat, ¬ (48 * x.toInt.toNat ≤ p ∧ (p : Int) < 48 * x.toInt.toNat + (k.toInt + 1)) → qI V 23 p = qI u2 23 p) → (¬ (qI u2 24 x.toInt.toNat).toInt = 0 → rwT V x.toInt.toNat ≤ rwT u2 x.toInt.toNat) → (¬ (qI u2 24 x.toInt.toNat).toInt = 0 → (qI u2 0 57).toInt = 0 → ¬ (qI V 0 57).toInt = 0 → rwT V x.toInt.toNat < rwT u2 x.toInt.toNat) → ((qI V 0 57).toInt = 0 → (qI u2 0 57).toInt = 0 ∧ qI V 23 = qI u2 23 ∧ (¬ (qI u2 24 x.toInt.toNat).toInt = 0 → ∀ j : Nat, (j : Int) < k.toInt + 1 → sbT (tJ u2 hd j) (qI u2 23 (48 * x.toInt.toNat + j)))) → (¬ (qI u2 24 x.toInt.toNat).toInt = 0 → ∀ j : Nat, j < 48 → sbT (qI u2 23 (48 * x.toInt.toNat + j)) (qI V 23 (48 * x.toInt.toNat + j))) → ((qI u2 24 x.toInt.toNat).toInt = 0 → ∀ j : Nat, (j : Int) < k.toInt + 1 → qI V 23 (48 * x.toInt.toNat + j) = vp_nar .byte ((tJ u2 hd j).toInt8.toInt32)) → k.toInt < 24 + y.toInt → w_join_J172 (JoP u2 x hd) (w_join_L50 (JoP u2 x hd) m) V x hd y k := fun V a b c d e mo nw f => by
          unfold w_join_J172
          intro k' ek'
          subst ek'
          exact ih V _ ⟨by omega, by omega⟩ a (by rw [ek]; exact b) c d (by rw [ek]; exact e) mo (by rw [ek]; exact nw) (by omega)
        have s152 : ∀ v : Int32, k.toInt < 24 + y.toInt → (¬ (qI u2 24 x.toInt.toNat).toInt = 0 → rnk (vp_nar .byte (v.toInt8.toInt32)) < rnk (qI U 23 (48 * x.toInt.toNat + k.toInt.toNat)) ∧ sbT (qI U 23 (48 * x.toInt.toNat + k.toInt.toNat)) (vp_nar .byte (v.toInt8.toInt32))) → ((qI u2 24 x.toInt.toNat).toInt = 0 → v = tJ u2 hd k.toInt.toNat) → w_join_J152 (JoP u2 x hd) (w_join_L50 (JoP u2 x hd) m) U x hd y k v := fun v kl hv hv0 => by
          unfold w_join_J152
          rw [ea]
          refine ⟨⟨by omega, by omega⟩, fun A eA B eB => ?_⟩
          rw [en] at eA
          have fB : frm [23] [57] u2 B := fU.tr ((show frm [23] [57] U A by rw [eA]; exact frm.pI (by decide)).tr (by rw [eB]; exact frm.pI0 (by decide)))
          have b23 : ∀ p : Nat, qI B 23 p = if p = 48 * x.toInt.toNat + k.toInt.toNat then vp_nar .byte (v.toInt8.toInt32) else qI U 23 p := fun p => by
            rw [eB, rdH (by decide), eA, qI_wI]
            by_cases z : p = 48 * x.toInt.toNat + k.toInt.toNat
            · rw [if_pos ⟨rfl, z⟩, if_pos z]
            · rw [if_neg (fun q => z q.2), if_neg z]
          have b57 : ¬ (qI B 0 57).toInt = 0 := by rw [eB, qI_wI, if_pos ⟨rfl, rfl⟩]; decide
          have fall : ¬ (qI u2 24 x.toInt.toNat).toInt = 0 → rwT B x.toInt.toNat < rwT U x.toInt.toNat := fun z => by
            have hup := sumN_upd (g := fun j => rnk (qI U 23 (48 * x.toInt.toNat + j))) (g' := fun j => rnk (qI B 23 (48 * x.toInt.toNat + j))) (i := k.toInt.toNat) (fun j hj => by show rnk (qI B 23 _) = _; rw [b23, if_neg (by omega)]) 48 (by omega)
            have e1 : rnk (qI B 23 (48 * x.toInt.toNat + k.toInt.toNat)) = rnk (vp_nar .byte (v.toInt8.toInt32)) := by rw [b23, if_pos rfl]
            have := (hv z).1
            unfold rwT
            rw [e1] at hup
            omega
          refine s172 B fB (fun p hp => ?_) (fun z => by have := fall z; have := hle z; omega) (fun z _ _ => by have := fall z; have := hle z; omega) (fun z => absurd z b57) (fun z j hj => ?_) (fun z j hj => ?_) kl
          rotate_left
          · rw [b23]
            by_cases w : 48 * x.toInt.toNat + j = 48 * x.toInt.toNat + k.toInt.toNat
            · rw [if_pos w, show j = k.toInt.toNat by omega]
              exact (hmo z _ (by omega)).tr (hv z).2
            · rw [if_neg w]; exact hmo z j hj
          · rw [b23]
            by_cases w : 48 * x.toInt.toNat + j = 48 * x.toInt.toNat + k.toInt.toNat
            · rw [if_pos w, hv0 z, show j = k.toInt.toNat by omega]
            · rw [if_neg w]; exact hnw z j (by omega)
          rw [b23, if_neg (by omega)]
          exact hout p (by omega)
        have s94 : ∀ t : Int32, t = tJ u2 hd k.toInt.toNat → k.toInt < 24 + y.toInt → w_join_J94 (JoP u2 x hd) (w_join_L50 (JoP u2 x hd) m) U t x hd y k := fun t et kl => by
          unfold w_join_J94
          rw [ea]
          refine ⟨⟨by omega, by omega⟩, fun o eo => ⟨⟨hx.1, by omega⟩, ?_⟩⟩
          rw [en] at eo
          rw [u24]
          refine ⟨fun z => ?_, fun z => ⟨d_jn, ?_⟩⟩
          · unfold w_join_J131
            rw [u24]
            exact ⟨⟨hx.1, by omega⟩, fun _ => s152 t kl (fun q => absurd z q) (fun _ => et), fun q => absurd z q⟩
          · unfold w_join_J131
            rw [u24]
            refine ⟨⟨hx.1, by omega⟩, fun q => absurd q z, fun _ => ⟨fun q => ?_, fun q => s152 _ kl (fun _ => by rw [← eo]; exact ⟨jn_fall q, jn_up q⟩) (fun w => absurd w z)⟩⟩
            have sb := jn_same q
            refine s172 U fU (fun p hp => hout p (by omega)) hle hlt (fun w => ⟨(hz w).1, (hz w).2.1, fun w2 j hj => ?_⟩) hmo (fun w => absurd w z) kl
            by_cases wj : (j : Int) < k.toInt
            · exact (hz w).2.2 w2 j wj
            · have ejk : j = k.toInt.toNat := by omega
              rw [ejk, ← et, ← (hz w).2.1, ← eo]
              exact sb
        unfold w_join_L50
        rw [e24, u24]
        refine ⟨fun c1 => ⟨fun c2 => ⟨⟨hx.1, by omega⟩, fun c3 => ?_, fun c3 => ?_⟩, fun c2 => ?_⟩, fun c1 => ⟨fun c2 => ⟨fun c3 => ?_, fun c3 => ?_⟩, fun c2 => ?_⟩⟩
        · unfold w_join_J195
          exact s200 c1 1 (fun z => absurd c3 z) (fun z => absurd z (by decide))
        · exact s200 c1 0 (fun _ _ z => absurd rfl z) (fun _ => ⟨(hz c2).1, (hz c2).2.1, c3, fun _ j hj => (hz c2).2.2 c3 j (by omega)⟩)
        · unfold w_join_J195
          exact s200 c1 1 (fun z p _ => hlt z p c2) (fun z => absurd z (by decide))
        · have e6 : (k - (24 : Int32)).toInt = k.toInt - 24 := by rw [t_sub (by rw [l24]; omega), l24]
          rw [e6, u26]
          refine ⟨⟨by omega, by omega⟩, s94 _ ?_ (by omega)⟩
          unfold tJ
          rw [if_neg (by omega), if_pos c3, show (k.toInt - 24).toNat = k.toInt.toNat - 24 by omega]
        · refine s94 5 ?_ (by omega)
          unfold tJ
          rw [if_neg (by omega), if_neg c3]
        · rw [u25]
          refine ⟨⟨hk.1, by omega⟩, s94 _ ?_ (by omega)⟩
          unfold tJ
          rw [if_pos (by omega)]
    exact ⟨_, L _ u2 0 ⟨by decide, by rw [li_0]; omega⟩ frm.rf (fun _ _ => rfl) (fun _ => Nat.le_refl _) (fun _ a b => absurd a b) (fun z => ⟨z, rfl, fun _ j hj => by rw [li_0] at hj; omega⟩) (fun _ _ _ => sbT.rf) (fun _ j hj => by rw [li_0] at hj; omega) (Nat.lt_succ_self _)⟩
  · have st : ∀ t : Int32, (¬ (qI u 24 x.toInt.toNat).toInt = 0 → (qI u 0 57).toInt = 0 → t.toInt = 0) → (t.toInt = 0 → (qI u 0 57).toInt = 0 ∧ ¬ (qI u 24 x.toInt.toNat).toInt = 0) → w_join_J30 (JoP u x hd) u t x := fun t a b => by
      unfold w_join_J30
      exact fun A eA => ⟨⟨hx.1, by omega⟩, fun B eB => jo_end hx.2 hx.1 frm.rf (fun _ _ => rfl) (fun _ => Nat.le_refl _) (fun z p q => absurd (a z p) q) (fun z => ⟨(b z).1, rfl, (b z).2, fun w => by omega⟩) (fun _ _ _ => sbT.rf) (fun _ w => by omega) eA eB⟩
    refine ⟨fun c1 => ⟨⟨hx.1, by omega⟩, fun c2 => ?_, fun c2 => st 0 (fun _ _ => rfl) (fun _ => ⟨c1, c2⟩)⟩, fun c1 => ?_⟩
    · unfold w_join_J25
      exact st 1 (fun z => absurd c2 z) (fun z => absurd z (by decide))
    · unfold w_join_J25
      exact st 1 (fun _ p => absurd p c1) (fun z => absurd z (by decide))
/-! flow (behind sp_join) -/
def cmJ (S : MS) (j : Nat) : Prop := ¬ (qI S 24 j).toInt = 0
def CmI (S : MS) : Prop := ∀ j : Nat, (j : Int) < (qI S 0 52).toInt → cmJ S j → ¬ (qI S 22 j).toInt = 0
def sbR (S : MS) (j : Nat) (t : Nat → Int32) : Prop := 0 ≤ htV (qI S 22 j) → ∀ k : Nat, (k : Int) < 24 + htV (qI S 22 j) → sbT (t k) (qI S 23 (48 * j + k))
def JS (S U : MS) : Prop := frm [23, 24, 25, 26] [57, 62, 63] S U ∧ (∀ j : Nat, cmJ S j → cmJ U j) ∧ ((qI U 0 57).toInt = 0 → (qI S 0 57).toInt = 0 ∧ qI U 23 = qI S 23 ∧ ∀ j : Nat, cmJ U j → cmJ S j) ∧ Mt U ≤ Mt S ∧ ((qI S 0 57).toInt = 0 → ¬ (qI U 0 57).toInt = 0 → Mt U < Mt S) ∧ CmI U ∧ ∀ j k : Nat, k < 48 → cmJ S j → sbT (qI S 23 (48 * j + k)) (qI U 23 (48 * j + k))
theorem JS.tr {S u v : MS} (h : JS S u) (k : JS u v) : JS S v := by
  obtain ⟨a1, a2, a3, a4, a5, a6, a7⟩ := h
  obtain ⟨b1, b2, b3, b4, b5, b6, b7⟩ := k
  refine ⟨a1.tr b1, fun j q => b2 j (a2 j q), fun q => ⟨(a3 (b3 q).1).1, (b3 q).2.1.trans (a3 (b3 q).1).2.1, fun j w => (a3 (b3 q).1).2.2 j ((b3 q).2.2 j w)⟩, by omega, fun p q => ?_, b6, fun j k hk hj => (a7 j k hk hj).tr (b7 j k hk (a2 j hj))⟩
  by_cases z : (qI u 0 57).toInt = 0
  · have := b5 z q; omega
  · have := a5 p z; omega
theorem JS.sL {S u : MS} (h : JS S u) : smL S u := smL.fm h.1 (by decide) (by decide)
theorem JS.pa {S U V : MS} (h : JS S U) (f : frm [25, 26] [62, 63] U V) : JS S V := by
  obtain ⟨a1, a2, a3, a4, a5, a6, a7⟩ := h
  have v23 : qI V 23 = qI U 23 := (f.2.2.2.2.1 23 (by decide) (by decide)).1
  have v24 : qI V 24 = qI U 24 := (f.2.2.2.2.1 24 (by decide) (by decide)).1
  have v22 : qI V 22 = qI U 22 := (f.2.2.2.2.1 22 (by decide) (by decide)).1
  have v57 : qI V 0 57 = qI U 0 57 := (f.2.2.2.2.2 57 (by decide)).1
  have v52 : qI V 0 52 = qI U 0 52 := (f.2.2.2.2.2 52 (by decide)).1
  have m : Mt V = Mt U := by unfold Mt rwT; rw [v23, v24, v52]
  unfold JS cmJ CmI cmJ
  rw [v23, v24, v22, v57, v52, m]
  exact ⟨a1.tr (f.mo (by decide) (by decide)), a2, a3, a4, a5, a6, a7⟩
theorem JS.jo {S U V : MS} {x hd : Int32} (h : JS S U) (k : JoP U x hd V) (hz : ¬ (qI S 22 x.toInt.toNat).toInt = 0) : JS S V ∧ cmJ V x.toInt.toNat ∧ ((qI V 0 57).toInt = 0 → cmJ S x.toInt.toNat ∧ sbR S x.toInt.toNat (tJ U hd)) := by
  obtain ⟨k1, k2, k3, k4, k5, k6, k7, k8, k9⟩ := k
  have h' := h
  obtain ⟨a1, a2, a3, a4, a5, a6, a7⟩ := h
  have u22 : qI U 22 = qI S 22 := (a1.2.2.2.2.1 22 (by decide) (by decide)).1
  have v22 : qI V 22 = qI U 22 := (k1.2.2.2.2.1 22 (by decide) (by decide)).1
  have v52 : qI V 0 52 = qI U 0 52 := (k1.2.2.2.2.2 52 (by decide)).1
  have back : (qI V 0 57).toInt = 0 → ∀ j : Nat, cmJ V j → cmJ U j := fun q j w => by
    by_cases z : j = x.toInt.toNat
    · rw [z]; exact (k5 q).2.2.1
    · unfold cmJ at w ⊢; rw [k2 j z] at w; exact w
  have JUV : JS U V := by
    refine ⟨k1.mo (by decide) (by decide), fun j q => ?_, fun q => ⟨(k5 q).1, (k5 q).2.1, back q⟩, k6, k7, fun j hj q => ?_, fun j k hk hj => ?_⟩
    · by_cases z : j = x.toInt.toNat
      · rw [z]; exact k3
      · unfold cmJ at q ⊢; rw [k2 j z]; exact q
    · rw [v22]
      by_cases z : j = x.toInt.toNat
      · rw [z, u22]; exact hz
      · refine a6 j (by rw [v52] at hj; exact hj) ?_
        unfold cmJ at q ⊢; rw [k2 j z] at q; exact q
    · by_cases z : j = x.toInt.toNat
      · rw [z] at hj ⊢; exact k8 hj k hk
      · rw [k4 (48 * j + k) (by omega)]; exact sbT.rf
  refine ⟨h'.tr JUV, k3, fun q => ?_⟩
  obtain ⟨q1, q2, q3, q4⟩ := k5 q
  obtain ⟨p1, p2, p3⟩ := a3 q1
  refine ⟨p3 _ q3, ?_⟩
  unfold sbR
  rw [← u22, ← p2]
  exact q4
/-- types that stand at x, taken up -/
def MtA (S : MS) (x : Nat) (a : AS) : Prop := (∀ k : Nat, k < 24 → aL a k = vp_nar .byte (qI S 23 (48 * x + k))) ∧ (∀ k : Nat, (k : Int) < htV (qI S 22 x) → aP a k = vp_nar .byte (qI S 23 (48 * x + 24 + k))) ∧ (aT a).toInt = htV (qI S 22 x)
/-- what follows x has types that hold what comes -/
def ClT (S : MS) (x : Int32) (p : Nat) : Prop := ∃ a : AS, MtA S x.toInt.toNat a ∧ ((f_goesOn S (f_op S x)).toInt ≠ 0 → cmJ S (x.toInt.toNat + 1) ∧ sbR S (x.toInt.toNat + 1) (fun k => if k < 24 then aL (wkV S x p a) k else aP (wkV S x p a) (k - 24))) ∧ (∀ k : Int32, 0 ≤ k.toInt → k.toInt < (f_ways S x).toInt → cmJ S (f_way S x k).toInt.toNat ∧ sbR S (f_way S x k).toInt.toNat (fun k => if k < 24 then aL (wkV S x p a) k else aP (wkV S x p a) (k - 24))) ∧ ∀ c : Int32, 0 ≤ c.toInt → c.toInt < (qI S 0 54).toInt → (f_isCaught S x c).toInt ≠ 0 → cmJ S (f_catchWord S c 2).toInt.toNat ∧ sbR S (f_catchWord S c 2).toInt.toNat (fun k => if k < 24 then aL a k else 5)
theorem bt_nz {v : Int32} {k : Nat} (h : bt v k = true) : ¬ v.toInt = 0 := fun q => by
  have : v = 0 := Int32.toInt_inj.mp q
  rw [this] at h
  unfold bt at h
  rw [show (0 : Int32).toBitVec = 0#32 from rfl, BitVec.getLsbD_zero] at h
  exact absurd h (by decide)
theorem HtI.le {S : MS} (h : HtI S) {j : Nat} (hj : (j : Int) < (qI S 0 52).toInt) (hm : 0 ≤ (qI S 0 56).toInt) : htV (qI S 22 j) ≤ (qI S 0 56).toInt := by
  by_cases z : 0 ≤ htV (qI S 22 j)
  · have := h.1 j _ hj (htV_ok z).1
    omega
  · omega
theorem sp_flow {S : MS} {x : Int32} {p : Nat} (h : LkI S) (ht : TxI S) (hH : HtI S) (hm : 0 ≤ (qI S 0 56).toInt ∧ (qI S 0 56).toInt ≤ 24) (hx : 0 ≤ x.toInt ∧ x.toInt < (qI S 0 52).toInt) (hp : okH S (p + 1)) (hC : CmI S) (hc : cmJ S x.toInt.toNat) (hf : ¬ hfV S x) : w_flow S x p (fun u => JS S u ∧ ((qI u 0 57).toInt = 0 → ClT S x p)) := by
  have kc := h.cnt
  have kw := h.ways hx
  have nz := hC _ (by omega) hc
  have hg : 0 ≤ htV (qI S 22 x.toInt.toNat) ∧ rgV S x (htV (qI S 22 x.toInt.toNat)) := by
    unfold hfV at hf
    by_cases z : htV (qI S 22 x.toInt.toNat) < 0
    · exact absurd ⟨nz, Or.inl z⟩ hf
    · refine ⟨by omega, ?_⟩
      by_cases w : rgV S x (htV (qI S 22 x.toInt.toNat))
      · exact w
      · exact absurd ⟨nz, Or.inr w⟩ hf
  obtain ⟨hg0, g1, g2, g3, g4⟩ := hg
  have h24 := hH.le (j := x.toInt.toNat) (by omega) hm.1
  have cl : ClH S S x (htV (qI S 22 x.toInt.toNat)) := by
    have := hH.2.2 x (htV (qI S 22 x.toInt.toNat)).toNat hx.1 hx.2 (htV_ok hg0).1
    rw [show (((htV (qI S 22 x.toInt.toNat)).toNat : Nat) : Int) = htV (qI S 22 x.toInt.toNat) by omega] at this
    exact this ⟨g1, g2, g3, g4⟩
  have btg := b_tg h hx ht
  have hle : ∀ j : Nat, (j : Int) < (qI S 0 52).toInt → htV (qI S 22 j) ≤ 24 := fun j hj => by have := hH.le hj hm.1; omega
  have J0 : JS S S := ⟨frm.rf, fun _ q => q, fun q => ⟨q, rfl, fun _ w => w⟩, Nat.le_refl _, fun a b => absurd a b, hC, fun _ _ _ _ => sbT.rf⟩
  unfold w_flow
  refine ⟨_, fn_ht ⟨hx.1, by omega⟩, ?_⟩
  rintro y S3 ⟨rfl, ey⟩
  refine ⟨_, sp_takeOf ⟨hx.1, by omega⟩ ⟨by omega, by omega⟩, ?_⟩
  rintro A ⟨fA, t25, t26, t62⟩
  have JA : JS S3 A := J0.pa (fA.mo (by decide) (by decide))
  -- what was taken up
  have mA : MtA S3 x.toInt.toNat (absS A) := ⟨t25, fun k hk => t26 k (by omega), by show (qI A 0 62).toInt = _; rw [t62, ey]⟩
  have hTT : tkV S3 x ≤ (aT (absS A)).toInt ∧ (aT (absS A)).toInt ≤ 24 ∧ (aT (absS A)).toInt - tkV S3 x + gvV S3 x ≤ 28 := by
    rw [mA.2.2]
    unfold hbV at g1 g2
    by_cases z : tkV S3 x ≤ htV (qI S3 22 x.toInt.toNat)
    · rw [if_pos z] at g1 g2
      exact ⟨z, by omega, by omega⟩
    · rw [if_neg z] at g1; omega
  -- the ways
  have L73 : ∀ (m : Nat) (U : MS) (k : Int32) (b : AS), JS S3 U → qI U 25 = aL b → qI U 26 = aP b → (0 ≤ k.toInt ∧ k.toInt ≤ (f_ways S3 x).toInt) → ((qI U 0 57).toInt = 0 → ∀ k' : Int32, 0 ≤ k'.toInt → k'.toInt < k.toInt → cmJ S3 (f_way S3 x k').toInt.toNat ∧ sbR S3 (f_way S3 x k').toInt.toNat (fun k => if k < 24 then aL b k else aP b (k - 24))) → ∀ Q : MS → Prop, (∀ u, JS S3 u → ((qI u 0 57).toInt = 0 → (qI U 0 57).toInt = 0 ∧ ∀ k' : Int32, 0 ≤ k'.toInt → k'.toInt < (f_ways S3 x).toInt → cmJ S3 (f_way S3 x k').toInt.toNat ∧ sbR S3 (f_way S3 x k').toInt.toNat (fun k => if k < 24 then aL b k else aP b (k - 24))) → Q u) → (202 - k.toInt).toNat < m → w_flow_L73 Q m U x k := by
    intro m
    induction m with
    | zero => intro U k b _ _ _ _ _ Q _ h9; exact absurd h9 (Nat.not_lt_zero _)
    | succ m ih =>
      intro U k b hU u25 u26 hk hz Q hQ hm'
      have sL := hU.sL
      have KU := h.mv sL
      have e52 : qI U 0 52 = qI S3 0 52 := (sL.2 52 (by decide) (by decide)).1
      have u22 : qI U 22 = qI S3 22 := (hU.1.2.2.2.2.1 22 (by decide) (by decide)).1
      have kwU := KU.ways (x := x) (by rw [e52]; exact hx)
      have ek : (k + Int32.ofInt 1).toInt = k.toInt + 1 := by rw [t_add (by rw [lo_1]; omega), lo_1]
      unfold w_flow_L73
      refine ⟨kwU.1, ?_⟩
      rw [(sL.wy h x k).1] at kwU
      rw [(sL.wy h x k).1, (sL.wy h x k).2]
      refine ⟨fun c => hQ U hU (fun z => ⟨z, fun k' a d => hz z k' a (by omega)⟩), fun c => ?_⟩
      have wr := (kw.2.2 k hk.1 (by omega)).2
      have wz : ¬ (qI S3 22 (f_way S3 x k).toInt.toNat).toInt = 0 := bt_nz (cl.2.1 k hk.1 (by omega))
      refine ⟨(kwU.2.2 k hk.1 (by omega)).1, _, sp_join (by rw [e52]; exact kc.1.2) (by rw [e52]; exact wr) (by rw [u22]; exact hle _ (by omega)), ?_⟩
      rintro V hV a ea
      subst ea
      obtain ⟨jV, cV, dV⟩ := hU.jo hV wz
      have fV := hV.1
      have v25 : qI V 25 = aL b := by rw [(fV.2.2.2.2.1 25 (by decide) (by decide)).1, u25]
      have v26 : qI V 26 = aP b := by rw [(fV.2.2.2.2.1 26 (by decide) (by decide)).1, u26]
      have tj : tJ U 0 = fun k => if k < 24 then aL b k else aP b (k - 24) := by
        funext j
        unfold tJ
        rw [u25, u26, if_pos (by decide : (0 : Int32).toInt = 0)]
      have vU : (qI V 0 57).toInt = 0 → (qI U 0 57).toInt = 0 := fun z => (hV.2.2.2.2.1 z).1
      refine ih V _ b jV v25 v26 ⟨by omega, by omega⟩ (fun z k' a d => ?_) Q (fun u ju hu => hQ u ju (fun z => ⟨vU (hu z).1, (hu z).2⟩)) (by omega)
      by_cases w : k'.toInt < k.toInt
      · exact hz (vU z) k' a w
      · have : k' = k := Int32.toInt_inj.mp (by omega)
        rw [this, ← tj]
        exact dV z
  -- the catches, then the work
  have L12 : ∀ (m : Nat) (U : MS) (c : Int32), JS S3 U → qI U 25 = aL (absS A) → qI U 26 = aP (absS A) → qI U 0 62 = aT (absS A) → (0 ≤ c.toInt ∧ c.toInt ≤ (qI S3 0 54).toInt) → ((qI U 0 57).toInt = 0 → ∀ c' : Int32, 0 ≤ c'.toInt → c'.toInt < c.toInt → (f_isCaught S3 x c').toInt ≠ 0 → cmJ S3 (f_catchWord S3 c' 2).toInt.toNat ∧ sbR S3 (f_catchWord S3 c' 2).toInt.toNat (fun k => if k < 24 then aL (absS A) k else 5)) → (16 - c.toInt).toNat < m → w_flow_L12 (fun u => JS S3 u ∧ ((qI u 0 57).toInt = 0 → ClT S3 x p)) m U x p c := by
    intro m
    induction m with
    | zero => intro U c _ _ _ _ _ _ h9; exact absurd h9 (Nat.not_lt_zero _)
    | succ m ih =>
      intro U c hU u25 u26 u62 hcc hz hm'
      have sL := hU.sL
      have KU := h.mv sL
      have TU := sL.tx ht
      have e52 : qI U 0 52 = qI S3 0 52 := (sL.2 52 (by decide) (by decide)).1
      have e54 : qI U 0 54 = qI S3 0 54 := (sL.2 54 (by decide) (by decide)).1
      have u22 : qI U 22 = qI S3 22 := (hU.1.2.2.2.2.1 22 (by decide) (by decide)).1
      have ec : (c + Int32.ofInt 1).toInt = c.toInt + 1 := by rw [t_add (by rw [lo_1]; omega), lo_1]
      unfold w_flow_L12
      rw [e54, sL.ic h, sL.cw h]
      refine ⟨fun q => ?_, fun q => ⟨KU.dic ⟨hcc.1, by rw [e54]; omega⟩, fun z => ?_, fun z => ?_⟩⟩
      · -- the work
        have hxU : 0 ≤ x.toInt ∧ x.toInt < (qI U 0 52).toInt := by rw [e52]; exact hx
        have aU : absS U = (aL (absS A), aP (absS A), aT (absS A), qI U 0 63) := by unfold absS at u25 u26 u62 ⊢; rw [u25, u26, u62]
        have tv := sL.tv h ht hx
        refine ⟨_, fn_work (Q := PA U (wkV U x p (absS U))) KU TU hxU PA.rf (hp.mv sL) (by rw [tv.1, tv.2.1, aU]; exact hTT) (fun u hu => hu), ?_⟩
        rintro V hV
        have JV : JS S3 V := hU.pa hV.1
        have sV := JV.sL
        have KV := h.mv sV
        have v52 : qI V 0 52 = qI S3 0 52 := (sV.2 52 (by decide) (by decide)).1
        have v22 : qI V 22 = qI S3 22 := (JV.1.2.2.2.2.1 22 (by decide) (by decide)).1
        have v57 : qI V 0 57 = qI U 0 57 := (hV.1.2.2.2.2.2 57 (by decide)).1
        -- the same work, told from the start
        have ew : wkV U x p (absS U) = wkV S3 x p (absS A) := by
          have zt := sL.1.1 (f_takesOf S3 x + 1) (h.tk hx ht).1
          have zg := sL.1.1 (f_givesOf S3 x + 1) (h.gv hx ht).1
          have er : rmV U (f_op S3 x) p = rmV S3 (f_op S3 x) p := by
            unfold rmV
            refine sL.sE hp ?_
            have t8 := (tx_tk ht (i := 8) (s := 10000016) (by decide) (by decide) rfl).1
            have t11 := (tx_tk ht (i := 11) (s := 10000022) (by decide) (by decide) rfl).1
            have t14 := (tx_tk ht (i := 14) (s := 10000028) (by decide) (by decide) rfl).1
            have t16 := (tx_tk ht (i := 16) (s := 10000032) (by decide) (by decide) rfl).1
            repeat' split
            all_goals assumption
          unfold wkV
          rw [(sL.op h x).1, (sL.op h x).2.1, (sL.tg h x).1, (sL.tg h x).2, zt.1, zt.2.2.2.2, zg.1, zg.2.2.2.2, er, aU]
          rfl
        have l := hV.l
        rw [ew] at l
        have ln : ∀ Q : MS → Prop, ∀ W : MS, JS S3 W → qI W 25 = aL (wkV S3 x p (absS A)) → qI W 26 = aP (wkV S3 x p (absS A)) → ((qI W 0 57).toInt = 0 → (qI U 0 57).toInt = 0 ∧ ((f_goesOn S3 (f_op S3 x)).toInt ≠ 0 → cmJ S3 (x.toInt.toNat + 1) ∧ sbR S3 (x.toInt.toNat + 1) (fun k => if k < 24 then aL (wkV S3 x p (absS A)) k else aP (wkV S3 x p (absS A)) (k - 24)))) → w_flow_J71 (fun u => JS S3 u ∧ ((qI u 0 57).toInt = 0 → ClT S3 x p)) W x := fun Q W jW w25 w26 hW => by
          unfold w_flow_J71
          refine ⟨_, L73 _ W 0 (wkV S3 x p (absS A)) jW w25 w26 ⟨by decide, by rw [li_0]; omega⟩ (fun _ k' a d => by rw [li_0] at d; omega) _ (fun u ju hu => ⟨ju, fun z => ?_⟩) (Nat.lt_succ_self _)⟩
          obtain ⟨z1, z2⟩ := hu z
          obtain ⟨z3, z4⟩ := hW z1
          exact ⟨absS A, mA, z4, z2, fun c' a d e => hz z3 c' a (by omega) e⟩
        have e1 : (x + (1 : Int32)).toInt = x.toInt + 1 := by rw [t_add (by rw [li_1]; omega), li_1]
        refine ⟨(KV.dop (x := x) (by rw [v52]; exact hx)).1, d_gO, ?_⟩
        rw [(sV.op h x).1]
        have eg : f_goesOn V (f_op S3 x) = f_goesOn S3 (f_op S3 x) := rfl
        rw [eg]
        refine ⟨fun go => ln (fun _ => True) V JV l.1 l.2.1 (fun z => ⟨by rw [v57] at z; exact z, fun w => absurd go w⟩), fun go => ?_⟩
        have xl : x.toInt + 1 < (qI S3 0 52).toInt := by
          rcases g4 with w | w
          · exact absurd w go
          · omega
        have xz : ¬ (qI S3 22 (x + 1).toInt.toNat).toInt = 0 := by
          rw [e1, show (x.toInt + 1).toNat = x.toInt.toNat + 1 by omega]
          exact bt_nz (cl.1 go)
        refine ⟨_, sp_join (by rw [v52]; exact kc.1.2) (by rw [v52]; omega) (by rw [v22]; exact hle _ (by omega)), ?_⟩
        rintro W hW
        obtain ⟨jW, cW, dW⟩ := JV.jo hW xz
        have w25 : qI W 25 = aL (wkV S3 x p (absS A)) := by rw [(hW.1.2.2.2.2.1 25 (by decide) (by decide)).1, l.1]
        have w26 : qI W 26 = aP (wkV S3 x p (absS A)) := by rw [(hW.1.2.2.2.2.1 26 (by decide) (by decide)).1, l.2.1]
        have tj : tJ V 0 = fun k => if k < 24 then aL (wkV S3 x p (absS A)) k else aP (wkV S3 x p (absS A)) (k - 24) := by
          funext j
          unfold tJ
          rw [l.1, l.2.1, if_pos (by decide : (0 : Int32).toInt = 0)]
        refine ln (fun _ => True) W jW w25 w26 (fun z => ⟨?_, fun _ => ?_⟩)
        · have := (hW.2.2.2.2.1 z).1
          rw [v57] at this
          exact this
        · rw [← tj, show x.toInt.toNat + 1 = (x + 1).toInt.toNat by omega]
          exact dW z
      · unfold w_flow_J40
        intro a ea
        subst ea
        refine ih U _ hU u25 u26 u62 ⟨by omega, by omega⟩ (fun w c' a d e => ?_) (by omega)
        by_cases y : c'.toInt < c.toInt
        · exact hz w c' a y e
        · have : c' = c := Int32.toInt_inj.mp (by omega)
          rw [this] at e; exact absurd z e
      · have cw := (h.cw (c := c) ⟨hcc.1, by omega⟩).2.2.1
        have cz : ¬ (qI S3 22 (f_catchWord S3 c 2).toInt.toNat).toInt = 0 := bt_nz (cl.2.2 c hcc.1 (by omega) z)
        refine ⟨KU.dcw ⟨hcc.1, by rw [e54]; omega⟩ (by decide), _, sp_join (by rw [e52]; exact kc.1.2) (by rw [e52]; exact cw) (by rw [u22]; exact hle _ (by omega)), ?_⟩
        rintro V hV
        obtain ⟨jV, cV, dV⟩ := hU.jo hV cz
        have fV := hV.1
        have tj : tJ U 1 = fun k => if k < 24 then aL (absS A) k else 5 := by
          funext j
          unfold tJ
          rw [u25, if_neg (by decide : ¬ (1 : Int32).toInt = 0)]
        unfold w_flow_J40
        intro a ea
        subst ea
        refine ih V _ jV (by rw [(fV.2.2.2.2.1 25 (by decide) (by decide)).1, u25]) (by rw [(fV.2.2.2.2.1 26 (by decide) (by decide)).1, u26]) (by rw [(fV.2.2.2.2.2 62 (by decide)).1, u62]) ⟨by omega, by omega⟩ (fun w c' a d e => ?_) (by omega)
        by_cases y' : c'.toInt < c.toInt
        · exact hz (hV.2.2.2.2.1 w).1 c' a y' e
        · have : c' = c := Int32.toInt_inj.mp (by omega)
          rw [this, ← tj]
          exact dV w
  exact ⟨_, L12 _ A 0 JA rfl rfl rfl ⟨by decide, by rw [li_0]; omega⟩ (fun _ c' a d => by rw [li_0] at d; omega) (Nat.lt_succ_self _)⟩
/-! firstFault (behind sp_flow) -/
/-- the types at rest, for a method that gives p -/
def TyI (S : MS) (p : Nat) : Prop := CmI S ∧ cmJ S 0 ∧ ∀ x : Int32, 0 ≤ x.toInt → x.toInt < (qI S 0 52).toInt → cmJ S x.toInt.toNat → ¬ hfV S x → ClT S x p
/-- all stands as it stood, but for what the checker works with -/
def ckF (S u : MS) : Prop := frm [23, 24, 25, 26] [57, 62, 63] S u
theorem ClT.mv {S u : MS} {x : Int32} {p : Nat} (k : ClT S x p) (h : LkI S) (ht : TxI S) (hx : 0 ≤ x.toInt ∧ x.toInt < (qI S 0 52).toInt) (hp : okH S (p + 1)) (sL : smL S u) (e22 : qI u 22 = qI S 22) (e23 : qI u 23 = qI S 23) (e24 : ∀ j : Nat, cmJ S j → cmJ u j) : ClT u x p := by
  obtain ⟨a, m, c1, c2, c3⟩ := k
  have ew : wkV u x p a = wkV S x p a := by
    have zt := sL.1.1 (f_takesOf S x + 1) (h.tk hx ht).1
    have zg := sL.1.1 (f_givesOf S x + 1) (h.gv hx ht).1
    have er : rmV u (f_op S x) p = rmV S (f_op S x) p := by
      unfold rmV
      refine sL.sE hp ?_
      have t8 := (tx_tk ht (i := 8) (s := 10000016) (by decide) (by decide) rfl).1
      have t11 := (tx_tk ht (i := 11) (s := 10000022) (by decide) (by decide) rfl).1
      have t14 := (tx_tk ht (i := 14) (s := 10000028) (by decide) (by decide) rfl).1
      have t16 := (tx_tk ht (i := 16) (s := 10000032) (by decide) (by decide) rfl).1
      repeat' split
      all_goals assumption
    unfold wkV
    rw [(sL.op h x).1, (sL.op h x).2.1, (sL.tg h x).1, (sL.tg h x).2, zt.1, zt.2.2.2.2, zg.1, zg.2.2.2.2, er]
  have sb : ∀ (j : Nat) (t : Nat → Int32), sbR S j t → sbR u j t := fun j t q => by unfold sbR; rw [e22, e23]; exact q
  refine ⟨a, ?_, fun q => ?_, fun k k0 k1 => ?_, fun c c0 c1' q => ?_⟩
  · unfold MtA; rw [e22, e23]; exact m
  · rw [(sL.op h x).1] at q
    have := c1 q
    rw [ew]
    exact ⟨e24 _ this.1, sb _ _ this.2⟩
  · rw [(sL.wy h x k).1] at k1
    rw [(sL.wy h x k).2, ew]
    have := c2 k k0 k1
    exact ⟨e24 _ this.1, sb _ _ this.2⟩
  · rw [(sL.2 54 (by decide) (by decide)).1] at c1'
    rw [sL.ic h] at q
    rw [sL.cw h]
    have := c3 c c0 c1' q
    exact ⟨e24 _ this.1, sb _ _ this.2⟩
theorem smL.hf {S u : MS} (h : smL S u) (k : LkI S) (t : TxI S) (e56 : qI u 0 56 = qI S 0 56) (e22 : qI u 22 = qI S 22) {x : Int32} (hx : 0 ≤ x.toInt ∧ x.toInt < (qI S 0 52).toInt) : hfV u x ↔ hfV S x := by
  unfold hfV
  rw [e22, h.rg k t e56 hx]
/-- the base: what the checker has before it -/
def FbI (S : MS) (f : Nat) (m : Int32) (p : Nat) : Prop := LkI S ∧ TxI S ∧ HtI S ∧ (0 ≤ (qI S 0 56).toInt ∧ (qI S 0 56).toInt ≤ 24) ∧ okH S (p + 1) ∧ ((92 < f ∧ qT S f = 11) ∧ okH S (f + 7)) ∧ (qR S f 11 = some (f + 7) ∧ qN S (f + 7) = 24 ∧ qR S (f + 7) m.toInt.toNat = some p) ∧ (0 ≤ m.toInt ∧ m.toInt < 24)
theorem FbI.mv {S u : MS} {f p : Nat} {m : Int32} (h : FbI S f m p) (k : ckF S u) : FbI u f m p ∧ smL S u ∧ qI u 22 = qI S 22 ∧ qI u 0 56 = qI S 0 56 ∧ qI u 0 52 = qI S 0 52 := by
  obtain ⟨a, b, c, d, e, g, i, j⟩ := h
  have sL : smL S u := smL.fm k (by decide) (by decide)
  have e22 : qI u 22 = qI S 22 := (k.2.2.2.2.1 22 (by decide) (by decide)).1
  have e56 : qI u 0 56 = qI S 0 56 := (k.2.2.2.2.2 56 (by decide)).1
  have e52 : qI u 0 52 = qI S 0 52 := (k.2.2.2.2.2 52 (by decide)).1
  have zf := sL.1.2 f g.1.1 g.1.2
  have z7 := sL.1.1 (f + 7) g.2
  refine ⟨⟨a.mv sL, sL.tx b, ⟨?_, ?_, ?_⟩, by rw [e56]; exact d, e.mv sL, ⟨⟨g.1.1, by rw [zf.2.2.1]; exact g.1.2⟩, g.2.mv sL⟩, by rw [zf.2.1 11 (by decide), z7.2.2.1, z7.2.2.2.2]; exact i, j⟩, sL, e22, e56, e52⟩
  · rw [e22, e56, e52]; exact c.1
  · rw [e22]; exact c.2.1
  · intro x y x0 x1 q r
    rw [e52] at x1
    rw [e22] at q
    have r' : rgV S x y := (sL.rg a b e56 ⟨x0, x1⟩).mp r
    exact (c.2.2 x y x0 x1 q r').mv sL a b ⟨x0, x1⟩ e22
/-- the last look: every row fits -/
def FtI (S : MS) (p : Nat) : Prop := ∀ x : Int32, 0 ≤ x.toInt → x.toInt < (qI S 0 52).toInt → ¬ hfV S x ∧ (cmJ S x.toInt.toNat → ∃ a : AS, MtA S x.toInt.toNat a ∧ ¬ (aF (wkV S x p a)).toInt = 0)
theorem sp_ff_L239 {S : MS} {f p : Nat} {mm : Int32} {Q : Int32 → MS → Prop} (h : FbI S f mm p) (hT : TyI S p) (hQ0 : ∀ (r : Int32) (u : MS), frm [25, 26] [62, 63] S u → 0 ≤ r.toInt → Q r u) (hQ1 : ∀ u : MS, frm [25, 26] [62, 63] S u → FtI S p → Q (-1) u) :
    ∀ (k : Nat) (U : MS) (i : Int32), (0 ≤ i.toInt ∧ i.toInt ≤ (qI S 0 52).toInt) → frm [25, 26] [62, 63] S U → (∀ x : Int32, 0 ≤ x.toInt → x.toInt < i.toInt → ¬ hfV S x ∧ (cmJ S x.toInt.toNat → ∃ a : AS, MtA S x.toInt.toNat a ∧ ¬ (aF (wkV S x p a)).toInt = 0)) → (1200 - i.toInt).toNat < k → w_firstFault_L239 Q k U f mm i := by
  have kc := h.1.cnt
  have h' := h
  obtain ⟨b1, b2, b3, b4, b5, b6, b7, b8⟩ := h
  intro k
  induction k with
  | zero => intro U i _ _ _ h9; exact absurd h9 (Nat.not_lt_zero _)
  | succ k ih =>
    intro U i hi fU hall hm
    obtain ⟨hU, sL, e22, e56, e52⟩ := h'.mv (show ckF S U from fU.mo (by decide) (by decide))
    have u23 : qI U 23 = qI S 23 := (fU.2.2.2.2.1 23 (by decide) (by decide)).1
    have u24 : qI U 24 = qI S 24 := (fU.2.2.2.2.1 24 (by decide) (by decide)).1
    have ei : (i + Int32.ofInt 1).toInt = i.toInt + 1 := by rw [t_add (by rw [lo_1]; omega), lo_1]
    unfold w_firstFault_L239
    rw [e52]
    refine ⟨fun c => hQ1 U fU (fun x x0 x1 => hall x x0 (by omega)), fun c => ?_⟩
    have hx : 0 ≤ i.toInt ∧ i.toInt < (qI S 0 52).toInt := ⟨hi.1, by omega⟩
    refine ⟨_, fn_hf hU.1 hU.2.1 (by rw [e52]; exact hx), ?_⟩
    rintro r V ⟨rfl, er⟩
    have er2 : r.toInt ≠ 0 ↔ hfV S i := er.trans (sL.hf b1 b2 e56 e22 hx)
    refine ⟨fun z => ?_, fun z => hQ0 i V fU hi.1⟩
    have nf : ¬ hfV S i := fun w => er2.mpr w z
    rw [u24]
    -- the next one
    have nxt : ∀ W : MS, frm [25, 26] [62, 63] S W → (cmJ S i.toInt.toNat → ∃ a : AS, MtA S i.toInt.toNat a ∧ ¬ (aF (wkV S i p a)).toInt = 0) → w_firstFault_J307 Q (w_firstFault_L239 Q k) W f mm i := fun W fW hW => by
      unfold w_firstFault_J307
      intro a ea
      subst ea
      refine ih W _ ⟨by omega, by omega⟩ fW (fun x x0 x1 => ?_) (by omega)
      by_cases w : x.toInt < i.toInt
      · exact hall x x0 w
      · have : x = i := Int32.toInt_inj.mp (by omega)
        rw [this]; exact ⟨nf, hW⟩
    refine ⟨⟨hi.1, by omega⟩, fun z2 => nxt V fU (fun w => absurd z2 w), fun z2 => ?_⟩
    have nz := hT.1 i.toInt.toNat (by omega) z2
    have hg : 0 ≤ htV (qI S 22 i.toInt.toNat) ∧ rgV S i (htV (qI S 22 i.toInt.toNat)) := by
      unfold hfV at nf
      by_cases y : htV (qI S 22 i.toInt.toNat) < 0
      · exact absurd ⟨nz, Or.inl y⟩ nf
      · refine ⟨by omega, ?_⟩
        by_cases w : rgV S i (htV (qI S 22 i.toInt.toNat))
        · exact w
        · exact absurd ⟨nz, Or.inr w⟩ nf
    have h24 := b3.le (j := i.toInt.toNat) (by omega) b4.1
    refine ⟨_, fn_ht ⟨hi.1, by omega⟩, ?_⟩
    rintro y V2 ⟨rfl, ey⟩
    rw [e22] at ey
    refine ⟨_, sp_takeOf ⟨hi.1, by omega⟩ ⟨by omega, by omega⟩, ?_⟩
    rintro A ⟨fA, t25, t26, t62⟩
    have fSA : frm [25, 26] [62, 63] S A := fU.tr (fA.mo (by decide) (by decide))
    obtain ⟨hA, sLA, a22, a56, a52⟩ := h'.mv (show ckF S A from fSA.mo (by decide) (by decide))
    have i7 := hA.2.2.2.2.2.2.1
    have q11 : qO A f 11 = f + 7 := by show (qR A f 11).getD 0 = _; rw [i7.1]; rfl
    have qp : qO A (f + 7) mm.toInt.toNat = p := by show (qR A (f + 7) mm.toInt.toNat).getD 0 = _; rw [i7.2.2]; rfl
    rw [q11, qp]
    have mA : MtA S i.toInt.toNat (absS A) := by
      rw [u23] at t25 t26
      exact ⟨t25, fun k hk => t26 k (by omega), by show (qI A 0 62).toInt = _; rw [t62, ey]⟩
    have hTT : tkV S i ≤ (aT (absS A)).toInt ∧ (aT (absS A)).toInt ≤ 24 ∧ (aT (absS A)).toInt - tkV S i + gvV S i ≤ 28 := by
      rw [mA.2.2]
      obtain ⟨hg0, g1, g2, -⟩ := hg
      unfold hbV at g1 g2
      by_cases z : tkV S i ≤ htV (qI S 22 i.toInt.toNat)
      · rw [if_pos z] at g1 g2
        exact ⟨z, by omega, by omega⟩
      · rw [if_neg z] at g1; omega
    refine ⟨i7.1, ⟨b8.1, by rw [i7.2.1]; omega⟩, i7.2.2, _, fn_work (Q := PA S (wkV S i p (absS A))) b1 b2 hx (show PA S (absS A) A from ⟨fSA, rfl⟩) b5 hTT (fun u hu => hu), ?_⟩
    rintro W hW
    have w63 : qI W 0 63 = aF (wkV S i p (absS A)) := hW.l.2.2.2
    rw [w63]
    exact ⟨fun _ => hQ0 i W hW.1 hi.1, fun q => nxt W hW.1 (fun _ => ⟨absS A, mA, q⟩)⟩
/-! firstFault, whole (behind sp_ff_L239) -/
theorem frm.sy {W J : List Nat} {S u : MS} (h : frm W J S u) : frm W J u S := ⟨h.1.symm, h.2.1.symm, h.2.2.1.symm, h.2.2.2.1.symm, fun a a0 an => ⟨(h.2.2.2.2.1 a a0 an).1.symm, (h.2.2.2.2.1 a a0 an).2.1.symm, (h.2.2.2.2.1 a a0 an).2.2.symm⟩, fun j hj => ⟨(h.2.2.2.2.2 j hj).1.symm, (h.2.2.2.2.2 j hj).2.1.symm, (h.2.2.2.2.2 j hj).2.2.symm⟩⟩
def PsT (A U : MS) (p : Nat) (i : Int) : Prop := JS A U ∧ ((qI U 0 57).toInt = 0 → ∀ x : Int32, 0 ≤ x.toInt → x.toInt < (qI A 0 52).toInt → x.toInt < i → cmJ A x.toInt.toNat → ¬ hfV A x → ClT A x p)
theorem sp_ff_L187 {A : MS} {f p : Nat} {mm : Int32} {Q : Int32 → MS → Prop} {k172 : MS → Nat → Int32 → Prop} (h : FbI A f mm p) (hk : ∀ V : MS, PsT A V p (qI A 0 52).toInt → k172 V f mm) :
    ∀ (k : Nat) (U : MS) (i : Int32), (0 ≤ i.toInt ∧ i.toInt ≤ (qI A 0 52).toInt) → PsT A U p i.toInt → (1200 - i.toInt).toNat < k → w_firstFault_L187 Q k172 k U f mm i := by
  have kc := h.1.cnt
  have h' := h
  obtain ⟨b1, b2, b3, b4, b5, b6, b7, b8⟩ := h
  intro k
  induction k with
  | zero => intro U i _ _ h9; exact absurd h9 (Nat.not_lt_zero _)
  | succ k ih =>
    rintro U i hi ⟨hJ, hP⟩ hm
    obtain ⟨hU, sL, e22, e56, e52⟩ := h'.mv hJ.1
    have ei : (i + Int32.ofInt 1).toInt = i.toInt + 1 := by rw [t_add (by rw [lo_1]; omega), lo_1]
    unfold w_firstFault_L187
    rw [e52]
    refine ⟨fun c => hk U ⟨hJ, fun z x x0 x1 _ => hP z x x0 x1 (by omega)⟩, fun c => ⟨⟨hi.1, by omega⟩, ?_⟩⟩
    have hx : 0 ≤ i.toInt ∧ i.toInt < (qI A 0 52).toInt := ⟨hi.1, by omega⟩
    have nxt : ∀ V : MS, JS A V → ((qI V 0 57).toInt = 0 → (qI U 0 57).toInt = 0 ∧ (cmJ A i.toInt.toNat → ¬ hfV A i → ClT A i p)) → w_firstFault_J227 Q (w_firstFault_L187 Q k172 k) V f mm i := fun V jV hV => by
      unfold w_firstFault_J227
      intro a ea
      subst ea
      refine ih V _ ⟨by omega, by omega⟩ ⟨jV, fun z x x0 x1 x2 x3 x4 => ?_⟩ (by omega)
      by_cases w : x.toInt < i.toInt
      · exact hP (hV z).1 x x0 x1 w x3 x4
      · have : x = i := Int32.toInt_inj.mp (by omega)
        rw [this] at x3 x4 ⊢
        exact (hV z).2 x3 x4
    refine ⟨fun z => nxt U hJ (fun w => ⟨w, fun q => absurd z (hJ.2.1 _ q)⟩), fun z => ⟨_, fn_hf hU.1 hU.2.1 (by rw [e52]; exact hx), ?_⟩⟩
    rintro r V ⟨rfl, er⟩
    have er2 : r.toInt ≠ 0 ↔ hfV A i := er.trans (sL.hf b1 b2 e56 e22 hx)
    refine ⟨fun z2 => ?_, fun z2 => nxt V hJ (fun w => ⟨w, fun _ q => absurd (er2.mp z2) q⟩)⟩
    have i7 := hU.2.2.2.2.2.2.1
    have q11 : qO V f 11 = f + 7 := by show (qR V f 11).getD 0 = _; rw [i7.1]; rfl
    have qp : qO V (f + 7) mm.toInt.toNat = p := by show (qR V (f + 7) mm.toInt.toNat).getD 0 = _; rw [i7.2.2]; rfl
    rw [q11, qp]
    refine ⟨i7.1, ⟨b8.1, by rw [i7.2.1]; omega⟩, i7.2.2, _, sp_flow hU.1 hU.2.1 hU.2.2.1 hU.2.2.2.1 (by rw [e52]; exact hx) hU.2.2.2.2.1 hJ.2.2.2.2.2.1 z (fun w => er.mpr w z2), ?_⟩
    rintro W ⟨jW, cW⟩
    refine nxt W (hJ.tr jW) (fun w => ⟨(jW.2.2.1 w).1, fun _ _ => ?_⟩)
    have wU := (jW.2.2.1 w).1
    have back := hJ.2.2.1 wU
    exact (cW w).mv hU.1 hU.2.1 (by rw [e52]; exact hx) hU.2.2.2.2.1 (smL.fm hJ.1.sy (by decide) (by decide)) e22.symm back.2.1.symm back.2.2
theorem sp_ff_L172 {S : MS} {f p : Nat} {mm : Int32} {Q : Int32 → MS → Prop} (h : FbI S f mm p) (hQ0 : ∀ (r : Int32) (u : MS), ckF S u → 0 ≤ r.toInt → Q r u) (hQ1 : ∀ U u : MS, ckF S U → frm [25, 26] [62, 63] U u → TyI U p → FtI U p → (∀ k : Nat, k < 48 → sbT (qI S 23 k) (qI U 23 k)) → Q (-1) u) :
    ∀ (k : Nat) (U : MS), ckF S U → CmI U → cmJ U 0 → (∀ k : Nat, k < 48 → sbT (qI S 23 k) (qI U 23 k)) → ((qI U 0 57).toInt = 0 → TyI U p) → (Mt U + 1 < k ∨ ((qI U 0 57).toInt = 0 ∧ Mt U < k)) → w_firstFault_L172 Q k U f mm := by
  have kc := h.1.cnt
  intro k
  induction k with
  | zero => intro U _ _ _ _ _ h9; omega
  | succ k ih =>
    intro U fU hC h0 hmo hz hm
    obtain ⟨hU, sLU, u22, u56, u52⟩ := h.mv fU
    unfold w_firstFault_L172
    refine ⟨fun c => ⟨_, sp_ff_L239 hU (hz c) (fun r u a b => hQ0 r u (fU.tr (a.mo (by decide) (by decide))) b) (fun u a b => hQ1 U u fU a (hz c) b hmo) _ U 0 ⟨by decide, by rw [li_0, u52]; omega⟩ frm.rf (fun x x0 x1 => by rw [li_0] at x1; omega) (Nat.lt_succ_self _)⟩, fun c A eA => ?_⟩
    have fA : ckF U A := by rw [eA]; exact frm.pI0 (by decide)
    obtain ⟨hA, sLA, a22, a56, a52⟩ := hU.mv fA
    have a23 : qI A 23 = qI U 23 := by rw [eA, rdH (by decide)]
    have a24 : qI A 24 = qI U 24 := by rw [eA, rdH (by decide)]
    have a57 : (qI A 0 57).toInt = 0 := by rw [eA, qI_wI, if_pos ⟨rfl, rfl⟩]; rfl
    have mA : Mt A = Mt U := by unfold Mt rwT; rw [a23, a24, a52]
    have CA : CmI A := fun j hj q => by rw [a22]; unfold cmJ at q; rw [a24] at q; rw [a52] at hj; exact hC j hj q
    have cA0 : cmJ A 0 := by unfold cmJ; rw [a24]; exact h0
    have JA : JS A A := ⟨frm.rf, fun _ q => q, fun q => ⟨q, rfl, fun _ w => w⟩, Nat.le_refl _, fun a b => absurd a b, CA, fun _ _ _ _ => sbT.rf⟩
    refine ⟨_, sp_ff_L187 hA (fun V hV => ?_) _ A 0 ⟨by decide, by rw [li_0, a52, u52]; omega⟩ ⟨JA, fun _ x x0 x1 x2 => by rw [li_0] at x2; omega⟩ (Nat.lt_succ_self _)⟩
    obtain ⟨jV, cV⟩ := hV
    have fV : ckF S V := (fU.tr fA).tr jV.1
    have sAV := jV.sL
    have v22 : qI V 22 = qI A 22 := (jV.1.2.2.2.2.1 22 (by decide) (by decide)).1
    have v56 : qI V 0 56 = qI A 0 56 := (jV.1.2.2.2.2.2 56 (by decide)).1
    have v52 : qI V 0 52 = qI A 0 52 := (jV.1.2.2.2.2.2 52 (by decide)).1
    have tyV : (qI V 0 57).toInt = 0 → TyI V p := fun z => by
      refine ⟨jV.2.2.2.2.2.1, jV.2.1 0 cA0, fun x x0 x1 x2 x3 => ?_⟩
      rw [v52] at x1
      have back := jV.2.2.1 z
      have cl := cV z x x0 x1 x1 (back.2.2 _ x2) (fun w => x3 ((sAV.hf hA.1 hA.2.1 v56 v22 ⟨x0, x1⟩).mpr w))
      exact cl.mv hA.1 hA.2.1 ⟨x0, x1⟩ hA.2.2.2.2.1 sAV v22 back.2.1 jV.2.1
    have mo : ∀ k : Nat, k < 48 → sbT (qI S 23 k) (qI V 23 k) := fun k hk => by
      have := jV.2.2.2.2.2.2 0 k hk cA0
      rw [a23, show 48 * 0 + k = k by omega] at this
      exact (hmo k hk).tr this
    by_cases z : (qI V 0 57).toInt = 0
    · exact ih V fV jV.2.2.2.2.2.1 (jV.2.1 0 cA0) mo tyV (Or.inr ⟨z, by have := jV.2.2.2.1; omega⟩)
    · have lt := jV.2.2.2.2.1 a57 z
      exact ih V fV jV.2.2.2.2.2.1 (jV.2.1 0 cA0) mo tyV (Or.inl (by omega))
/-- the types of the parameters -/
def parL (g : Nat → Int32) : Nat → Nat → Int32
  | 0 => fun _ => 0
  | k + 1 => if (g k).toInt = 73 then upd (parL g k) (plc g k).toNat 1 else if (g k).toInt = 74 then upd (upd (parL g k) (plc g k).toNat 2) ((plc g k).toNat + 1) 3 else upd (parL g k) (plc g k).toNat 4
/-- what firstFault says of a method without a fault -/
def VmI (U : MS) (s p : Nat) : Prop := HtI U ∧ TyI U p ∧ FtI U p ∧ (0 ≤ htV (qI U 22 0) → ∀ k : Nat, k < 24 → sbT (vp_nar .byte ((parL (qI U (s + 1)) (qN U (s + 1)) k).toInt8.toInt32)) (qI U 23 k)) ∧ okH U (s + 1) ∧ okH U (p + 1)
theorem sp_ff_L73 {S : MS} {f p s : Nat} {mm : Int32} {Q : Int32 → MS → Prop} (h : FbI S f mm p) (hs : okH S (s + 1) ∧ lOK S s 8) (hz : ∀ j : Nat, (j : Int) < (qI S 0 52).toInt → (qI S 24 j).toInt = 0) (hQ0 : ∀ (r : Int32) (u : MS), ckF S u → 0 ≤ r.toInt → Q r u) (hQ1 : ∀ U u : MS, ckF S U → frm [25, 26] [62, 63] U u → VmI U s p → Q (-1) u) :
    ∀ (k : Nat) (U : MS) (at_ i : Int32), frm [25] [] S U → (0 ≤ i.toInt ∧ i.toInt ≤ qN S (s + 1)) → at_.toInt = plc (qI S (s + 1)) i.toInt.toNat → (∀ j : Nat, j < 24 → qI U 25 j = parL (qI S (s + 1)) i.toInt.toNat j) → (8 - i.toInt).toNat < k → w_firstFault_L73 Q k U f mm s at_ i := by
  have kc := h.1.cnt
  have h' := h
  obtain ⟨b1, b2, b3, b4, b5, b6, b7, b8⟩ := h
  obtain ⟨hs1, ⟨hs2, hs3⟩, hs4, hs5⟩ := hs
  have up : ∀ (d n : Nat), plc (qI S (s + 1)) n ≤ plc (qI S (s + 1)) (n + d) := by
    intro d
    induction d with
    | zero => intro n; exact Int.le_refl _
    | succ d ih2 =>
      intro n
      have := ih2 n
      have e9 : plc (qI S (s + 1)) (n + (d + 1)) = plc (qI S (s + 1)) (n + d) + if (qI S (s + 1) (n + d)).toInt = 74 then 2 else 1 := rfl
      rw [e9]
      split <;> omega
  intro k
  induction k with
  | zero => intro U at_ i _ _ _ _ h9; exact absurd h9 (Nat.not_lt_zero _)
  | succ k ih =>
    intro U at_ i fU hi hat hL hm
    obtain ⟨hU, sL, e22, e56, e52⟩ := h'.mv (show ckF S U from fU.mo (by decide) (by decide))
    have z := sL.1.1 (s + 1) hs1
    have u24 : qI U 24 = qI S 24 := (fU.2.2.2.2.1 24 (by decide) (by decide)).1
    have u23 : qI U 23 = qI S 23 := (fU.2.2.2.2.1 23 (by decide) (by decide)).1
    have ei : (i + Int32.ofInt 1).toInt = i.toInt + 1 := by rw [t_add (by rw [lo_1]; omega), lo_1]
    have en : (i + Int32.ofInt 1).toInt.toNat = i.toInt.toNat + 1 := by omega
    have p0 := plc_ge (g := qI S (s + 1)) i.toInt.toNat
    unfold w_firstFault_L73
    rw [z.2.2.2.2, oN (by omega)]
    refine ⟨fun c => ?_, fun c => ⟨⟨hi.1, by omega⟩, fun a72 e72 => ?_⟩⟩
    · have h24 := b3.le (j := 0) (by omega) b4.1
      have zz : (qI U 24 0).toInt = 0 := by rw [u24]; exact hz 0 (by omega)
      refine ⟨_, sp_join (x := 0) (by rw [e52]; exact kc.1.2) (by rw [e52]; exact ⟨by decide, by rw [li_0]; omega⟩) (by rw [e22]; show htV (qI S 22 0) ≤ 24; omega), ?_⟩
      rintro V ⟨j1, j2, j3, j4, j5, j6, j7, j8, j9⟩ W eW
      have fV : ckF S V := (show ckF S U from fU.mo (by decide) (by decide)).tr (j1.mo (by decide) (by decide))
      have fW : ckF S W := fV.tr (by rw [eW]; exact frm.pI0 (by decide))
      obtain ⟨hW, sLW, w22, w56, w52⟩ := h'.mv fW
      have w24 : qI W 24 = qI V 24 := by rw [eW, rdH (by decide)]
      have w23 : qI W 23 = qI V 23 := by rw [eW, rdH (by decide)]
      have c0 : cmJ W 0 := by unfold cmJ; rw [w24]; exact j3
      have CW : CmI W := fun j hj q => by
        rw [w22]
        by_cases y : j = 0
        · rw [y]; exact bt_nz b3.2.1
        · unfold cmJ at q
          rw [w24, j2 j y, u24] at q
          exact absurd (hz j (by rw [w52] at hj; exact hj)) q
      refine ⟨_, sp_ff_L172 hW (fun r u a b => hQ0 r u (fW.tr a) b) (fun X u a b d e g => hQ1 X u (fW.tr a) b ?_) _ W frm.rf CW c0 (fun _ _ => sbT.rf) (fun q => by rw [eW, qI_wI, if_pos ⟨rfl, rfl⟩] at q; exact absurd q (by decide)) (Or.inl (Nat.lt_succ_self _))⟩
      obtain ⟨hX, sLX, x22, x56, x52⟩ := hW.mv a
      have zX := (sLW.tr sLX).1.1 (s + 1) hs1
      refine ⟨hX.2.2.1, d, e, fun y k hk => ?_, ⟨hs1.1, by rw [zX.2.2.2.1]; exact hs1.2.1, by rw [zX.2.2.2.1]; exact hs1.2.2⟩, hX.2.2.2.2.1⟩
      rw [zX.1, zX.2.2.2.2]
      rw [x22, w22] at y
      have nw := j9 zz (by rw [e22]; exact y) k (by rw [e22]; show (k : Int) < 24 + htV (qI S 22 0); omega)
      have g' := g k (by omega)
      rw [w23] at g'
      have tk : tJ U 0 k = parL (qI S (s + 1)) (qN S (s + 1)) k := by
        unfold tJ
        rw [if_pos hk, hL k hk, show i.toInt.toNat = qN S (s + 1) by omega]
      rw [tk, show 48 * (0 : Int32).toInt.toNat + k = k by show 48 * 0 + k = k; omega] at nw
      rw [nw] at g'
      exact g'
    · have hl := hs4 i.toInt.toNat (by omega)
      have ec : a72 = qI S (s + 1) i.toInt.toNat := by
        rw [e72]
        unfold cAt
        rw [z.1]
        exact (asc (by omega) (by omega)).2.2
      subst ec
      have mk := up (qN S (s + 1) - (i.toInt.toNat + 1)) (i.toInt.toNat + 1)
      rw [show i.toInt.toNat + 1 + (qN S (s + 1) - (i.toInt.toNat + 1)) = qN S (s + 1) by omega] at mk
      have hs6 : plc (qI S (s + 1)) (qN S (s + 1)) ≤ 8 := hs5
      have pk : plc (qI S (s + 1)) (i.toInt.toNat + 1) = plc (qI S (s + 1)) i.toInt.toNat + if (qI S (s + 1) i.toInt.toNat).toInt = 74 then 2 else 1 := rfl
      have at1 : (at_ + (1 : Int32)).toInt = at_.toInt + 1 := by rw [t_add (by rw [li_1]; omega), li_1]
      have pl1 : parL (qI S (s + 1)) (i.toInt.toNat + 1) = if (qI S (s + 1) i.toInt.toNat).toInt = 73 then upd (parL (qI S (s + 1)) i.toInt.toNat) (plc (qI S (s + 1)) i.toInt.toNat).toNat 1 else if (qI S (s + 1) i.toInt.toNat).toInt = 74 then upd (upd (parL (qI S (s + 1)) i.toInt.toNat) (plc (qI S (s + 1)) i.toInt.toNat).toNat 2) ((plc (qI S (s + 1)) i.toInt.toNat).toNat + 1) 3 else upd (parL (qI S (s + 1)) i.toInt.toNat) (plc (qI S (s + 1)) i.toInt.toNat).toNat 4 := rfl
      have s138 : ∀ V : MS, frm [25] [] S V → (∀ j : Nat, j < 24 → qI V 25 j = parL (qI S (s + 1)) (i.toInt.toNat + 1) j) → w_firstFault_J138 Q (w_firstFault_L73 Q k) V f mm s at_ i (qI S (s + 1) i.toInt.toNat) := fun V fV hV => by
        have st : ∀ t : Int32, (t.toInt = if (qI S (s + 1) i.toInt.toNat).toInt = 74 then 2 else 1) → w_firstFault_J152 Q (w_firstFault_L73 Q k) V t at_ f mm s i := fun t et => by
          unfold w_firstFault_J152
          intro a76 e76 a77 e77
          subst e77
          have t2 : 1 ≤ t.toInt ∧ t.toInt ≤ 2 := by rw [et]; split <;> omega
          refine ih V a76 _ fV ⟨by omega, by omega⟩ (by rw [e76, t_add (by omega), hat, et, en, pk]) (by rw [en]; exact hV) (by omega)
        unfold w_firstFault_J138
        exact ⟨fun q => st 2 (by rw [if_pos q]; rfl), fun q => st 1 (by rw [if_neg q]; rfl)⟩
      have s119 : ∀ (t : Int32) (n : Int32), vp_nar .byte (t.toInt8.toInt32) = n → ((qI S (s + 1) i.toInt.toNat).toInt = 73 ∧ n = 1 ∨ (qI S (s + 1) i.toInt.toNat).toInt = 74 ∧ n = 2 ∨ (¬ (qI S (s + 1) i.toInt.toNat).toInt = 73 ∧ ¬ (qI S (s + 1) i.toInt.toNat).toInt = 74) ∧ n = 4) → w_firstFault_J119 Q (w_firstFault_L73 Q k) U t at_ f mm s at_ i (qI S (s + 1) i.toInt.toNat) := fun t n tn hc => by
        unfold w_firstFault_J119
        rw [tn]
        have c2 : plc (qI S (s + 1)) i.toInt.toNat + 1 ≤ plc (qI S (s + 1)) (i.toInt.toNat + 1) := by rw [pk]; split <;> omega
        refine ⟨⟨by omega, by omega⟩, fun A eA => ?_⟩
        have fA : frm [25] [] S A := fU.tr (by rw [eA]; exact frm.pI (by decide))
        have a25 : ∀ j : Nat, qI A 25 j = if j = at_.toInt.toNat then n else qI U 25 j := fun j => by
          rw [eA, qI_wI]
          by_cases y : j = at_.toInt.toNat
          · rw [if_pos ⟨rfl, y⟩, if_pos y]
          · rw [if_neg (fun q => y q.2), if_neg y]
        have eat : at_.toInt.toNat = (plc (qI S (s + 1)) i.toInt.toNat).toNat := by omega
        refine ⟨fun q => ?_, fun q => ?_⟩
        · rw [if_pos q] at pk
          have n2 : n = 2 := by
            rcases hc with w | w | w
            · omega
            · exact w.2
            · exact absurd q w.1.2
          refine ⟨⟨by omega, by omega⟩, fun B eB => s138 B (fA.tr (by rw [eB]; exact frm.pI (by decide))) (fun j hj => ?_)⟩
          have plq : parL (qI S (s + 1)) (i.toInt.toNat + 1) = upd (upd (parL (qI S (s + 1)) i.toInt.toNat) (plc (qI S (s + 1)) i.toInt.toNat).toNat 2) ((plc (qI S (s + 1)) i.toInt.toNat).toNat + 1) 3 := by rw [pl1, if_neg (show ¬ (qI S (s + 1) i.toInt.toNat).toInt = 73 by omega), if_pos q]
          rw [eB, qI_wI, plq, at1, show (at_.toInt + 1).toNat = (plc (qI S (s + 1)) i.toInt.toNat).toNat + 1 by omega]
          unfold upd
          by_cases y1 : j = (plc (qI S (s + 1)) i.toInt.toNat).toNat + 1
          · rw [if_pos ⟨rfl, y1⟩, if_pos y1]; decide
          · rw [if_neg (fun w => y1 w.2), if_neg y1, a25, eat]
            by_cases y2 : j = (plc (qI S (s + 1)) i.toInt.toNat).toNat
            · rw [if_pos y2, if_pos y2, n2]
            · rw [if_neg y2, if_neg y2, hL j hj]
        · refine s138 A fA (fun j hj => ?_)
          rw [a25, pl1, eat]
          have fin : (if (qI S (s + 1) i.toInt.toNat).toInt = 73 then upd (parL (qI S (s + 1)) i.toInt.toNat) (plc (qI S (s + 1)) i.toInt.toNat).toNat 1 else if (qI S (s + 1) i.toInt.toNat).toInt = 74 then upd (upd (parL (qI S (s + 1)) i.toInt.toNat) (plc (qI S (s + 1)) i.toInt.toNat).toNat 2) ((plc (qI S (s + 1)) i.toInt.toNat).toNat + 1) 3 else upd (parL (qI S (s + 1)) i.toInt.toNat) (plc (qI S (s + 1)) i.toInt.toNat).toNat 4) = upd (parL (qI S (s + 1)) i.toInt.toNat) (plc (qI S (s + 1)) i.toInt.toNat).toNat n := by
            rcases hc with w | w | w
            · rw [if_pos w.1, w.2]
            · exact absurd w.1 q
            · rw [if_neg w.1.1, if_neg w.1.2, w.2]
          rw [fin]
          unfold upd
          by_cases y2 : j = (plc (qI S (s + 1)) i.toInt.toNat).toNat
          · rw [if_pos y2, if_pos y2]
          · rw [if_neg y2, if_neg y2, hL j hj]
      exact ⟨fun q => s119 1 1 (by decide) (Or.inl ⟨q, rfl⟩), fun q => ⟨fun q2 => s119 2 2 (by decide) (Or.inr (Or.inl ⟨q2, rfl⟩)), fun q2 => s119 4 4 (by decide) (Or.inr (Or.inr ⟨⟨q, q2⟩, rfl⟩))⟩⟩
/-! firstFault; keep (behind sp_ff_L73) -/
/-- the File f, method m, as look() leaves it -/
def LoP (S : MS) (f m : Nat) (u : MS) : Prop := (qR u 0 47 = some f ∧ qR u 0 48 = qR S f 18 ∧ qR u 0 49 = qR S f 19 ∧ qR u 0 50 = qR S f 20) ∧ qI u 0 51 = qI S (f + 10) m ∧ qI u 0 52 = qI S (f + 11) m ∧ qI u 0 53 = qI S (f + 12) m ∧ qI u 0 54 = qI S (f + 13) m
theorem LoP.mv {S u v : MS} {f m : Nat} (h : LoP S f m u) (k : ∀ j : Nat, 47 ≤ j → j ≤ 54 → qI v 0 j = qI u 0 j ∧ qR v 0 j = qR u 0 j) : LoP S f m v := by
  unfold LoP
  rw [(k 47 (by decide) (by decide)).2, (k 48 (by decide) (by decide)).2, (k 49 (by decide) (by decide)).2, (k 50 (by decide) (by decide)).2, (k 51 (by decide) (by decide)).1, (k 52 (by decide) (by decide)).1, (k 53 (by decide) (by decide)).1, (k 54 (by decide) (by decide)).1]
  exact h
theorem sp_look {S : MS} {f : Nat} {x : Int32} (h : FlI S f) (hx : 0 ≤ x.toInt ∧ x.toInt < (qI S f 4).toInt) : w_look S f x (fun u => (frm [] [47, 48, 49, 50, 51, 52, 53, 54] S u ∧ LkI u) ∧ LoP S f x.toInt.toNat u) := by
  have h' := h
  obtain ⟨h1, h2, h3, h4, h5, R, T, C, nc, ts, cn, r1, r2, r3, r4, r5, r6⟩ := h
  obtain ⟨⟨pl, md, plL⟩, st, lc, mt⟩ := r6 x.toInt.toNat (by omega)
  have f92 := h1.1.1
  have rows := fun (i : Nat) (hi : i < 13) => h'.row hi
  have q10 := rows 9 (by decide)
  have q11 := rows 10 (by decide)
  have q12 := rows 11 (by decide)
  have q13 := rows 12 (by decide)
  simp only [Nat.reduceAdd, Nat.add_assoc] at q10 q11 q12 q13
  unfold w_look
  intro A eA
  have rA : ∀ j : Nat, qR A f j = qR S f j := fun j => by rw [eA, qR_wR, if_neg (by omega)]
  have oA : qO A f 18 = R := by show (qR A f 18).getD 0 = _; rw [rA, r2.1]; rfl
  rw [oA]
  refine ⟨by rw [rA]; exact r2.1, fun B eB => ?_⟩
  have rB : ∀ j : Nat, qR B f j = qR S f j := fun j => by rw [eB, qR_wR, if_neg (by omega), rA]
  have oB : qO B f 19 = T := by show (qR B f 19).getD 0 = _; rw [rB, r2.2.1]; rfl
  rw [oB]
  refine ⟨by rw [rB]; exact r2.2.1, fun C' eC => ?_⟩
  have rC : ∀ j : Nat, qR C' f j = qR S f j := fun j => by rw [eC, qR_wR, if_neg (by omega), rB]
  have oC : qO C' f 20 = C := by show (qR C' f 20).getD 0 = _; rw [rC, r2.2.2]; rfl
  rw [oC]
  refine ⟨by rw [rC]; exact r2.2.2, fun D eD => ?_⟩
  have rD : ∀ j : Nat, qR D f j = qR S f j := fun j => by rw [eD, qR_wR, if_neg (by omega), rC]
  have tD : qT D = qT S ∧ qN D = qN S ∧ ∀ a : Nat, qI D a = qI S a := by rw [eD, eC, eB, eA]; exact ⟨rfl, rfl, fun _ => rfl⟩
  have oD : ∀ j b : Nat, qR S f j = some b → qO D f j = b := fun j b q => by show (qR D f j).getD 0 = _; rw [rD, q]; rfl
  rw [oD _ _ q10.1]
  refine ⟨by rw [rD]; exact q10.1, ⟨hx.1, by rw [tD.2.1, q10.2.2]; omega⟩, fun E eE => ?_⟩
  have rE : ∀ j : Nat, qR E f j = qR S f j := fun j => by rw [eE]; exact rD j
  have tE : qN E = qN S ∧ ∀ a : Nat, a ≠ 0 → qI E a = qI S a := ⟨by rw [eE]; exact tD.2.1, fun a ha => by rw [eE, rdH ha]; exact tD.2.2 a⟩
  have oE : ∀ j b : Nat, qR S f j = some b → qO E f j = b := fun j b q => by show (qR E f j).getD 0 = _; rw [rE, q]; rfl
  rw [oE _ _ q11.1]
  refine ⟨by rw [rE]; exact q11.1, ⟨hx.1, by rw [tE.1, q11.2.2]; omega⟩, fun F' eF => ?_⟩
  have rF : ∀ j : Nat, qR F' f j = qR S f j := fun j => by rw [eF]; exact rE j
  have tF : qN F' = qN S ∧ ∀ a : Nat, a ≠ 0 → qI F' a = qI S a := ⟨by rw [eF]; exact tE.1, fun a ha => by rw [eF, rdH ha]; exact tE.2 a ha⟩
  have oF : ∀ j b : Nat, qR S f j = some b → qO F' f j = b := fun j b q => by show (qR F' f j).getD 0 = _; rw [rF, q]; rfl
  rw [oF _ _ q12.1]
  refine ⟨by rw [rF]; exact q12.1, ⟨hx.1, by rw [tF.1, q12.2.2]; omega⟩, fun G eG => ?_⟩
  have rG : ∀ j : Nat, qR G f j = qR S f j := fun j => by rw [eG]; exact rF j
  have tG : qN G = qN S ∧ ∀ a : Nat, a ≠ 0 → qI G a = qI S a := ⟨by rw [eG]; exact tF.1, fun a ha => by rw [eG, rdH ha]; exact tF.2 a ha⟩
  have oG : ∀ j b : Nat, qR S f j = some b → qO G f j = b := fun j b q => by show (qR G f j).getD 0 = _; rw [rG, q]; rfl
  rw [oG _ _ q13.1]
  refine ⟨by rw [rG]; exact q13.1, ⟨hx.1, by rw [tG.1, q13.2.2]; omega⟩, fun H eH => ?_⟩
  have fH : frm [] [47, 48, 49, 50, 51, 52, 53, 54] S H := by
    have f1 : frm [] [47, 48, 49, 50, 51, 52, 53, 54] S A := by rw [eA]; exact frm.pR0 (by decide)
    have f2 : frm [] [47, 48, 49, 50, 51, 52, 53, 54] A B := by rw [eB]; exact frm.pR0 (by decide)
    have f3 : frm [] [47, 48, 49, 50, 51, 52, 53, 54] B C' := by rw [eC]; exact frm.pR0 (by decide)
    have f4 : frm [] [47, 48, 49, 50, 51, 52, 53, 54] C' D := by rw [eD]; exact frm.pR0 (by decide)
    have f5 : frm [] [47, 48, 49, 50, 51, 52, 53, 54] D E := by rw [eE]; exact frm.pI0 (by decide)
    have f6 : frm [] [47, 48, 49, 50, 51, 52, 53, 54] E F' := by rw [eF]; exact frm.pI0 (by decide)
    have f7 : frm [] [47, 48, 49, 50, 51, 52, 53, 54] F' G := by rw [eG]; exact frm.pI0 (by decide)
    have f8 : frm [] [47, 48, 49, 50, 51, 52, 53, 54] G H := by rw [eH]; exact frm.pI0 (by decide)
    exact ((((((f1.tr f2).tr f3).tr f4).tr f5).tr f6).tr f7).tr f8
  have zz : ∀ a : Nat, a ≠ 0 → sm5 S H a := fun a a0 => by
    have z := fH.2.2.2.2.1 a a0 (by simp)
    exact ⟨z.1, z.2.1, z.2.2, by rw [fH.1], by rw [fH.2.1]⟩
  have gR : qR H 0 = qR D 0 := by rw [eH, eG, eF, eE]; rfl
  have k47 : qR H 0 47 = some f := by rw [gR, eD, qR_wR, if_neg (by decide), eC, qR_wR, if_neg (by decide), eB, qR_wR, if_neg (by decide), eA, qR_wR, if_pos ⟨rfl, rfl⟩]
  have k48 : qR H 0 48 = some R := by rw [gR, eD, qR_wR, if_neg (by decide), eC, qR_wR, if_neg (by decide), eB, qR_wR, if_pos ⟨rfl, rfl⟩]
  have k49 : qR H 0 49 = some T := by rw [gR, eD, qR_wR, if_neg (by decide), eC, qR_wR, if_pos ⟨rfl, rfl⟩]
  have k50 : qR H 0 50 = some C := by rw [gR, eD, qR_wR, if_pos ⟨rfl, rfl⟩]
  have o47 : qO H 0 47 = f := by show (qR H 0 47).getD 0 = _; rw [k47]; rfl
  have o48 : qO H 0 48 = R := by show (qR H 0 48).getD 0 = _; rw [k48]; rfl
  have o49 : qO H 0 49 = T := by show (qR H 0 49).getD 0 = _; rw [k49]; rfl
  have o50 : qO H 0 50 = C := by show (qR H 0 50).getD 0 = _; rw [k50]; rfl
  have i51 : qI H 0 51 = qI S (f + 10) x.toInt.toNat := by rw [eH, qI_wI, if_neg (by decide), eG, qI_wI, if_neg (by decide), eF, qI_wI, if_neg (by decide), eE, qI_wI, if_pos ⟨rfl, rfl⟩, tD.2.2]
  have i52 : qI H 0 52 = qI S (f + 11) x.toInt.toNat := by rw [eH, qI_wI, if_neg (by decide), eG, qI_wI, if_neg (by decide), eF, qI_wI, if_pos ⟨rfl, rfl⟩, tE.2 _ (by omega)]
  have i53 : qI H 0 53 = qI S (f + 12) x.toInt.toNat := by rw [eH, qI_wI, if_neg (by decide), eG, qI_wI, if_pos ⟨rfl, rfl⟩, tF.2 _ (by omega)]
  have i54 : qI H 0 54 = qI S (f + 13) x.toInt.toNat := by rw [eH, qI_wI, if_pos ⟨rfl, rfl⟩, tG.2 _ (by omega)]
  have kinds : ∀ i : Nat, i < 13 → okH S (f + 1 + i) := fun i hi => ⟨by omega, by rw [(h1.2.2 i hi).2.2]; split <;> decide⟩
  have lo : ∀ (s : Nat) (p p' : Int), f + 14 ≤ s → StL S s p → p ≤ p' → lOK H s p' := fun s p p' hs ⟨n, g, a, b, c, d⟩ hp => by
    have z := zz (s + 1) (by omega)
    have en : qN S (s + 1) = n := a.2.2.1
    refine ⟨⟨⟨by omega, by rw [z.2.2.2.1]; exact a.1.2⟩, by rw [z.2.2.2.2, en]; exact d⟩, fun i hi => ?_, ?_⟩
    · rw [z.2.2.2.2, en] at hi
      rw [z.1, a.2.2.2 i hi]
      exact c i hi
    · unfold plS
      rw [z.1, z.2.2.2.2, en, plc_eq n (fun i hi => a.2.2.2 i hi), b]
      exact hp
  have ok : ∀ a : Nat, okH S a → okH H a := fun a q => ⟨q.1, by rw [fH.1]; exact q.2⟩
  refine ⟨⟨fH, ?_⟩, ⟨k47, by rw [k48, r2.1], by rw [k49, r2.2.1], by rw [k50, r2.2.2]⟩, i51, i52, i53, i54⟩
  unfold LkI
  rw [o47, o48, o49, o50, i51, i52, i53, i54]
  have zf := zz f (by omega)
  refine ⟨⟨⟨⟨⟨f92, by rw [fH.1]; exact h1.2.1.1⟩, ok _ (kinds 2 (by decide)), ok _ (kinds 5 (by decide)), ok _ (kinds 6 (by decide))⟩, ok _ ⟨by omega, by rw [r3.1]; decide⟩, ok _ ⟨by omega, by rw [r3.2.1]; decide⟩, ok _ ⟨by omega, by rw [r3.2.2]; decide⟩⟩, k47, k48, k49, k50⟩, (qI S (f + 9) x.toInt.toNat).toInt, (qI S f 3).toInt, (qI S f 4).toInt, nc, ts, cn, by rw [fH.2.1]; exact r4, r5, ⟨lc, h4.1.2, h4.2.2⟩, ?_, ?_, ?_, fun i hi => ?_, fun m hm => ?_⟩
  · rw [(zz R (by omega)).1, (zz T (by omega)).1, (zz C (by omega)).1]; exact mt
  · rw [zf.2.2.1]
    have a := rows 2 (by decide)
    have b := rows 5 (by decide)
    have c := rows 6 (by decide)
    simp only [Nat.reduceAdd, Nat.add_assoc] at a b c
    exact ⟨a.1, b.1, c.1⟩
  · rw [fH.2.1]
    have a := rows 2 (by decide)
    have b := rows 5 (by decide)
    have c := rows 6 (by decide)
    simp only [Nat.reduceAdd, Nat.add_assoc] at a b c
    exact ⟨a.2.2, b.2.2, c.2.2⟩
  · obtain ⟨s1, s2, s3, a1, a2, a3, c1, c2, c3, d1, d2, p, p2, d3⟩ := h5 i hi
    exact ⟨s3, by rw [(zz (f + 3) (by omega)).2.2.1]; exact c3, lo s3 p 2 a3.1 d3.l p2⟩
  · obtain ⟨⟨pl', md', -⟩, -⟩ := r6 m hm
    obtain ⟨s1, s2, s3, s4, a1, a2, a3, a4, c1, c2, c3, c4, d1, d2, ⟨p8, d3⟩, p, p2, d4⟩ := md'
    exact ⟨⟨s3, by rw [(zz (f + 6) (by omega)).2.2.1]; exact c3, lo s3 pl' 8 a3.1 d3 p8⟩, s4, by rw [(zz (f + 7) (by omega)).2.2.1]; exact c4, lo s4 p 2 a4.1 d4 p2⟩
/-- all that firstFault may change -/
def ffF (S u : MS) : Prop := frm [22, 23, 24, 25, 26] [47, 48, 49, 50, 51, 52, 53, 54, 56, 57, 62, 63] S u
theorem sp_firstFault {S : MS} {f : Nat} {x : Int32} (h : FlI S f) (ht : TxI S) (hx : 0 ≤ x.toInt ∧ x.toInt < (qI S f 4).toInt) : w_firstFault S f x (fun r u => ffF S u ∧ qI u 0 52 = qI S (f + 11) x.toInt.toNat ∧ LkI u ∧ HtI u ∧ (0 ≤ (qI u 0 56).toInt ∧ (qI u 0 56).toInt ≤ 24) ∧ (r.toInt < 0 → ∃ (U : MS) (s p : Nat), frm [25, 26] [62, 63] U u ∧ qR S (f + 6) x.toInt.toNat = some s ∧ qR S (f + 7) x.toInt.toNat = some p ∧ LoP S f x.toInt.toNat U ∧ ffF S U ∧ LkI U ∧ VmI U s p)) := by
  have h' := h
  obtain ⟨h1, h2, h3, h4, h5, R, T, C, nc, ts, cn, r1, r2, r3, r4, r5, r6⟩ := h
  obtain ⟨⟨pl, md, plL⟩, st, lc, mt⟩ := r6 x.toInt.toNat (by omega)
  obtain ⟨s1, s2, s3, s4, a1, a2, a3, a4, c1, c2, c3, c4, d1, d2, ⟨p8, d3⟩, p', p2, d4⟩ := md
  have f92 := h1.1.1
  have q12 := h'.row (i := 7) (by decide)
  have q10 := h'.row (i := 5) (by decide)
  have q11 := h'.row (i := 6) (by decide)
  simp only [Nat.reduceAdd, Nat.add_assoc] at q12 q10 q11
  unfold w_firstFault
  refine ⟨_, sp_look h' hx, ?_⟩
  rintro A ⟨⟨fA, LA⟩, lo⟩
  have k52 := lo.2.2.1
  have zA : ∀ a : Nat, a ≠ 0 → sm5 S A a := fun a a0 => by
    have z := fA.2.2.2.2.1 a a0 (by simp)
    exact ⟨z.1, z.2.1, z.2.2, by rw [fA.1], by rw [fA.2.1]⟩
  have TA : TxI A := fun i hi => by
    obtain ⟨a, b, c⟩ := ht i hi
    have z := zA (TXB + 2 * i + 1) (by omega)
    exact ⟨z.2.2.2.1.trans a, z.2.2.2.2.trans b, fun j => by rw [z.1]; exact c j⟩
  have zf := zA f (by omega)
  have oA : qO A f 12 = f + 8 := by show (qR A f 12).getD 0 = _; rw [zf.2.2.1, q12.1]; rfl
  rw [oA, (zA (f + 8) (by omega)).1]
  refine ⟨by rw [zf.2.2.1]; exact q12.1, ⟨hx.1, by rw [(zA (f + 8) (by omega)).2.2.2.2, q12.2.2]; omega⟩, _, sp_findHeights LA TA ⟨st.1, by omega⟩, ?_⟩
  rintro B ⟨fB, b56, hB⟩
  have sAB : smL A B := smL.fm fB (by decide) (by decide)
  have LB := LA.mv sAB
  have TB := sAB.tx TA
  have b52 : qI B 0 52 = qI A 0 52 := (fB.2.2.2.2.2 52 (by decide)).1
  have kc := LB.cnt
  have fSB : ffF S B := (show ffF S A from fA.mo (by decide) (by decide)).tr (fB.mo (by decide) (by decide))
  have zB : ∀ a : Nat, 26 < a → sm5 S B a := fun a a0 => by
    have z := fSB.2.2.2.2.1 a (by omega) (by simp; omega)
    exact ⟨z.1, z.2.1, z.2.2, by rw [fSB.1], by rw [fSB.2.1]⟩
  have kinds : ∀ i : Nat, i < 13 → okH S (f + 1 + i) := fun i hi => ⟨by omega, by rw [(h1.2.2 i hi).2.2]; split <;> decide⟩
  -- the base, for any state that differs from B in isCome and the locals alone
  have base : ∀ U : MS, frm [24, 25] [] B U → FbI U f x s4 ∧ (okH U (s3 + 1) ∧ lOK U s3 8) := fun U fU => by
    have fSU : ffF S U := fSB.tr (fU.mo (by decide) (by decide))
    have sBU : smL B U := smL.fm fU (by decide) (by decide)
    have u22 : qI U 22 = qI B 22 := (fU.2.2.2.2.1 22 (by decide) (by decide)).1
    have u56 : qI U 0 56 = qI B 0 56 := (fU.2.2.2.2.2 56 (by decide)).1
    have u52 : qI U 0 52 = qI B 0 52 := (fU.2.2.2.2.2 52 (by decide)).1
    have zU : ∀ a : Nat, 26 < a → sm5 S U a := fun a a0 => by
      have z := fSU.2.2.2.2.1 a (by omega) (by simp; omega)
      exact ⟨z.1, z.2.1, z.2.2, by rw [fSU.1], by rw [fSU.2.1]⟩
    have ok : ∀ a : Nat, okH S a → okH U a := fun a q => ⟨q.1, by rw [fSU.1]; exact q.2⟩
    obtain ⟨n4, g4, y1, y2, y3, y4⟩ := d4
    obtain ⟨n3, g3, w1, w2, w3, w4⟩ := d3
    have z3 := zU (s3 + 1) (by omega)
    have ok3 : okH U (s3 + 1) := ok _ ⟨by omega, w1.1.2⟩
    refine ⟨⟨LB.mv sBU, sBU.tx TB, ⟨?_, ?_, ?_⟩, by rw [u56, b56]; exact ⟨st.1, by omega⟩, ok _ ⟨by omega, y1.1.2⟩, ⟨⟨f92, by rw [fSU.1]; exact h1.2.1.1⟩, ok _ (kinds 6 (by decide))⟩, ?_, ⟨hx.1, by omega⟩⟩, ok3, ⟨ok3, ?_⟩, ?_, ?_⟩
    · rw [u22, u56, u52]; exact hB.1
    · rw [u22]; exact hB.2.1
    · intro y k y0 y1' q r
      rw [u52] at y1'
      rw [u22] at q
      exact (hB.2.2 y k y0 y1' q ((sBU.rg LB TB u56 ⟨y0, y1'⟩).mp r)).mv sBU LB TB ⟨y0, y1'⟩ u22
    · rw [(zU f (by omega)).2.2.1, (zU (f + 7) (by omega)).2.2.1, (zU (f + 7) (by omega)).2.2.2.2]
      exact ⟨q11.1, q11.2.2, c4⟩
    · rw [z3.2.2.2.2, w1.2.2.1]; exact w4
    · intro i hi
      rw [z3.2.2.2.2, w1.2.2.1] at hi
      rw [z3.1, w1.2.2.2 i hi]
      exact w3 i hi
    · unfold plS
      rw [z3.1, z3.2.2.2.2, w1.2.2.1, plc_eq n3 (fun i hi => w1.2.2.2 i hi), w2]
      exact p8
  -- the end
  let Q : Int32 → MS → Prop := fun r u => ffF S u ∧ qI u 0 52 = qI S (f + 11) x.toInt.toNat ∧ LkI u ∧ HtI u ∧ (0 ≤ (qI u 0 56).toInt ∧ (qI u 0 56).toInt ≤ 24) ∧ (r.toInt < 0 → ∃ (U : MS) (s p : Nat), frm [25, 26] [62, 63] U u ∧ qR S (f + 6) x.toInt.toNat = some s ∧ qR S (f + 7) x.toInt.toNat = some p ∧ LoP S f x.toInt.toNat U ∧ ffF S U ∧ LkI U ∧ VmI U s p)
  have common : ∀ (V u : MS), frm [24, 25] [] B V → ckF V u → ffF S u ∧ qI u 0 52 = qI S (f + 11) x.toInt.toNat ∧ LkI u ∧ HtI u ∧ (0 ≤ (qI u 0 56).toInt ∧ (qI u 0 56).toInt ≤ 24) := fun V u fV cu => by
    obtain ⟨hV, -⟩ := base V fV
    obtain ⟨hu, -, -, -, u52⟩ := hV.mv cu
    have v52 : qI V 0 52 = qI B 0 52 := (fV.2.2.2.2.2 52 (by decide)).1
    exact ⟨(fSB.tr (fV.mo (by decide) (by decide))).tr (cu.mo (by decide) (by decide)), by rw [u52, v52, b52, k52], hu.1, hu.2.2.1, hu.2.2.2.1⟩
  -- the locals are cleared
  have L41 : ∀ (k : Nat) (U : MS) (i : Int32), frm [24, 25] [] B U → (0 ≤ i.toInt ∧ i.toInt ≤ 24) → (∀ j : Nat, (j : Int) < (qI B 0 52).toInt → (qI U 24 j).toInt = 0) → (∀ j : Nat, (j : Int) < i.toInt → qI U 25 j = 0) → (24 - i.toInt).toNat < k → w_firstFault_L41 Q k U f x i := by
    intro k
    induction k with
    | zero => intro U i _ _ _ _ h9; exact absurd h9 (Nat.not_lt_zero _)
    | succ k ih =>
      intro U i fU hi hz hl hm
      obtain ⟨hU, hs3⟩ := base U fU
      have u52 : qI U 0 52 = qI B 0 52 := (fU.2.2.2.2.2 52 (by decide)).1
      have fSU : ffF S U := fSB.tr (fU.mo (by decide) (by decide))
      have zU : ∀ a : Nat, 26 < a → sm5 S U a := fun a a0 => by
        have z := fSU.2.2.2.2.1 a (by omega) (by simp; omega)
        exact ⟨z.1, z.2.1, z.2.2, by rw [fSU.1], by rw [fSU.2.1]⟩
      have ei : (i + Int32.ofInt 1).toInt = i.toInt + 1 := by rw [t_add (by rw [lo_1]; omega), lo_1]
      unfold w_firstFault_L41
      refine ⟨fun c => ?_, fun c => ⟨⟨hi.1, by omega⟩, fun V eV a ea => ?_⟩⟩
      · have o10 : qO U f 10 = f + 6 := by show (qR U f 10).getD 0 = _; rw [(zU f (by omega)).2.2.1, q10.1]; rfl
        have c3' : qR U (f + 6) x.toInt.toNat = some s3 := by rw [(zU (f + 6) (by omega)).2.2.1]; exact c3
        have os : qO U (f + 6) x.toInt.toNat = s3 := by show (qR U (f + 6) x.toInt.toNat).getD 0 = _; rw [c3']; rfl
        rw [o10, os]
        refine ⟨by rw [(zU f (by omega)).2.2.1]; exact q10.1, ⟨hx.1, by rw [(zU (f + 6) (by omega)).2.2.2.2, q10.2.2]; omega⟩, c3', ?_⟩
        refine ⟨_, sp_ff_L73 (Q := Q) hU hs3 (fun j hj => hz j (by rw [u52] at hj; exact hj)) (fun r u cu hr => ?_) (fun X u cX fXu vX => ?_) _ U 0 0 frm.rf ⟨by decide, by rw [li_0]; omega⟩ rfl (fun j hj => hl j (by omega)) (Nat.lt_succ_self _)⟩
        · obtain ⟨e1, e2, e3, e4, e5⟩ := common U u fU cu
          exact ⟨e1, e2, e3, e4, e5, fun q => by omega⟩
        · obtain ⟨e1, e2, e3, e4, e5⟩ := common U u fU (cX.tr (fXu.mo (by decide) (by decide)))
          obtain ⟨m1, m2, m3, m4, m5⟩ := common U X fU cX
          refine ⟨e1, e2, e3, e4, e5, fun _ => ⟨X, s3, s4, fXu, c3, c4, lo.mv (fun j j0 j1 => ?_), m1, m3, vX⟩⟩
          have e1' := cX.2.2.2.2.2 j (by simp; omega)
          have e2' := fU.2.2.2.2.2 j (by simp)
          have e3' := fB.2.2.2.2.2 j (by simp; omega)
          exact ⟨by rw [e1'.1, e2'.1, e3'.1], by rw [e1'.2.2, e2'.2.2, e3'.2.2]⟩
      · subst ea
        refine ih V _ (fU.tr (by rw [eV]; exact frm.pI (by decide))) ⟨by omega, by omega⟩ (by rw [eV, rdH (by decide)]; exact hz) (fun j hj => ?_) (by omega)
        rw [eV, qI_wI]
        by_cases y : j = i.toInt.toNat
        · rw [if_pos ⟨rfl, y⟩]; decide
        · rw [if_neg (fun q => y q.2)]; exact hl j (by omega)
  have L18 : ∀ (k : Nat) (U : MS) (i : Int32), frm [24, 25] [] B U → (0 ≤ i.toInt ∧ i.toInt ≤ (qI B 0 52).toInt) → (∀ j : Nat, (j : Int) < i.toInt → (qI U 24 j).toInt = 0) → (1200 - i.toInt).toNat < k → w_firstFault_L18 Q k U f x i := by
    intro k
    induction k with
    | zero => intro U i _ _ _ h9; exact absurd h9 (Nat.not_lt_zero _)
    | succ k ih =>
      intro U i fU hi hz hm
      have u52 : qI U 0 52 = qI B 0 52 := (fU.2.2.2.2.2 52 (by decide)).1
      have ei : (i + Int32.ofInt 1).toInt = i.toInt + 1 := by rw [t_add (by rw [lo_1]; omega), lo_1]
      unfold w_firstFault_L18
      rw [u52]
      refine ⟨fun c => ⟨_, L41 _ U 0 fU (by decide) (fun j hj => hz j (by omega)) (fun j hj => by rw [li_0] at hj; omega) (Nat.lt_succ_self _)⟩, fun c => ⟨⟨hi.1, by omega⟩, fun V eV a ea => ?_⟩⟩
      subst ea
      refine ih V _ (fU.tr (by rw [eV]; exact frm.pI (by decide))) ⟨by omega, by omega⟩ (fun j hj => ?_) (by omega)
      rw [eV, qI_wI]
      by_cases y : j = i.toInt.toNat
      · rw [if_pos ⟨rfl, y⟩]; decide
      · rw [if_neg (fun q => y q.2)]; exact hz j (by omega)
  exact ⟨_, L18 _ B 0 frm.rf ⟨by decide, by rw [li_0]; omega⟩ (fun j hj => by rw [li_0] at hj; omega) (Nat.lt_succ_self _)⟩
