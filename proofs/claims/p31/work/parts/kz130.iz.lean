/-! rule 16: one instruction, put together -/
section IZ
variable {S S' S0 R R' T V U u w : MS} {x z' r c v e len o N i x1 k t a b f pr g op q low fst many : Int32} {y : Int64} {z : Int32 × Int64} {p tt : Nat} {oo : MS ⊕ MS}
theorem ln_tab : ∀ n : Fin 256, ((n.val = 16 ∨ n.val = 18 ∨ n.val = 21 ∨ n.val = 22 ∨ n.val = 25 ∨ n.val = 54 ∨ n.val = 55 ∨ n.val = 58) → (if n.val < 202 then stLN.getD n.val 0 else 0 : Int32).toInt = 2) ∧ (n.val = 200 → (if n.val < 202 then stLN.getD n.val 0 else 0 : Int32).toInt = 5) := by decide +kernel
theorem ln_of (h0 : 0 ≤ r.toInt) (h1 : r.toInt < 256) : ((r.toInt = 16 ∨ r.toInt = 18 ∨ r.toInt = 21 ∨ r.toInt = 22 ∨ r.toInt = 25 ∨ r.toInt = 54 ∨ r.toInt = 55 ∨ r.toInt = 58) → (fX6_lengthOf V r).toInt = 2) ∧ (r.toInt = 200 → (fX6_lengthOf V r).toInt = 5) := by
  obtain ⟨q1, q2⟩ := ln_tab ⟨r.toInt.toNat, by omega⟩
  have e : fX6_lengthOf V r = if r.toInt.toNat < 202 then stLN.getD r.toInt.toNat 0 else 0 := by
    unfold fX6_lengthOf f_X6_lengthOf_J12
    rw [if_neg (by omega)]
    by_cases c : r.toInt < 202
    · rw [if_pos c, if_pos (by omega)]
    · rw [if_neg c, if_neg (by omega)]
  rw [e]
  refine ⟨fun h => q1 ?_, fun h => q2 ?_⟩
  · show r.toInt.toNat = 16 ∨ r.toInt.toNat = 18 ∨ r.toInt.toNat = 21 ∨ r.toInt.toNat = 22 ∨ r.toInt.toNat = 25 ∨ r.toInt.toNat = 54 ∨ r.toInt.toNat = 55 ∨ r.toInt.toNat = 58
    omega
  · show r.toInt.toNat = 200
    omega
theorem la_ln (o0 : 0 ≤ o.toInt ∧ o.toInt ≤ 1200) (hr : fX2_u1 V o = r) (c : r.toInt ≠ 170 ∧ r.toInt ≠ 171 ∧ r.toInt ≠ 188 ∧ r.toInt ≠ 196) (hl : 0 < (laF V o).toInt) : o.toInt + (fX6_lengthOf V r).toInt ≤ (qI V 8 2).toInt := by
  obtain ⟨-, l2⟩ := rg_la (S := V) o0
  rcases l2 with z | ⟨e, l2⟩
  · omega
  have el : lrF V o = fX6_lengthOf V r := by unfold lrF; rw [hr, if_neg c.1, if_neg c.2.1, if_neg c.2.2.1, if_neg c.2.2.2]
  rw [e, el] at l2
  exact l2
theorem la_wd (o0 : 0 ≤ o.toInt ∧ o.toInt ≤ 1200) (hr : fX2_u1 V o = r) (c : r.toInt = 196) (hl : 0 < (laF V o).toInt) : ((fX2_u1 V (o + (1 : Int32))).toInt = 132 ∧ o.toInt + 6 ≤ (qI V 8 2).toInt) ∨ (((fX2_u1 V (o + (1 : Int32))).toInt = 21 ∨ (fX2_u1 V (o + (1 : Int32))).toInt = 22 ∨ (fX2_u1 V (o + (1 : Int32))).toInt = 25 ∨ (fX2_u1 V (o + (1 : Int32))).toInt = 54 ∨ (fX2_u1 V (o + (1 : Int32))).toInt = 55 ∨ (fX2_u1 V (o + (1 : Int32))).toInt = 58) ∧ o.toInt + 4 ≤ (qI V 8 2).toInt) := by
  obtain ⟨-, l2⟩ := rg_la (S := V) o0
  rcases l2 with z | ⟨e, l2⟩
  · omega
  have el : lrF V o = fX2_wideLength V (fX2_u1 V (o + (1 : Int32))) := by unfold lrF; rw [hr, if_neg (by omega), if_neg (by omega), if_neg (by omega), if_pos c]
  rw [e, el] at hl l2
  obtain ⟨t, et⟩ : ∃ t : Int32, t = fX2_u1 V (o + (1 : Int32)) := ⟨_, rfl⟩
  rw [← et] at hl l2 ⊢
  unfold fX2_wideLength f_X2_wideLength_J24 fX6_isLoad fX6_isStore f_X6_isLoad_J18 f_X6_isStore_J18 at hl l2
  have o1' : ¬ (1 : Int32).toInt = 0 := by decide
  have o0' : (0 : Int32).toInt = 0 := rfl
  have o4 : (4 : Int32).toInt = 4 := li_4
  have o6 : (6 : Int32).toInt = 6 := li_6
  by_cases c0 : t.toInt = 132
  · rw [if_pos c0, o6] at l2
    exact Or.inl ⟨c0, l2⟩
  rw [if_neg c0] at hl l2
  by_cases c1 : t.toInt = 21
  · rw [if_pos c1, if_neg o1', o4] at l2
    exact Or.inr ⟨Or.inl c1, l2⟩
  rw [if_neg c1] at hl l2
  by_cases c2 : t.toInt = 22
  · rw [if_pos c2, if_neg o1', o4] at l2
    exact Or.inr ⟨Or.inr (Or.inl c2), l2⟩
  rw [if_neg c2] at hl l2
  by_cases c3 : t.toInt = 25
  · rw [if_pos c3, if_neg o1', o4] at l2
    exact Or.inr ⟨Or.inr (Or.inr (Or.inl c3)), l2⟩
  rw [if_neg c3, if_pos o0'] at hl l2
  by_cases c4 : t.toInt = 54
  · rw [if_pos c4, if_neg o1', o4] at l2
    exact Or.inr ⟨Or.inr (Or.inr (Or.inr (Or.inl c4))), l2⟩
  rw [if_neg c4] at hl l2
  by_cases c5 : t.toInt = 55
  · rw [if_pos c5, if_neg o1', o4] at l2
    exact Or.inr ⟨Or.inr (Or.inr (Or.inr (Or.inr (Or.inl c5)))), l2⟩
  rw [if_neg c5] at hl l2
  by_cases c6 : t.toInt = 58
  · rw [if_pos c6, if_neg o1', o4] at l2
    exact Or.inr ⟨Or.inr (Or.inr (Or.inr (Or.inr (Or.inr c6)))), l2⟩
  rw [if_neg c6, if_pos o0', o0'] at hl
  omega
theorem wel_no (h : ¬ (153 ≤ x.toInt ∧ x.toInt ≤ 167) ∧ ¬ (198 ≤ x.toInt ∧ x.toInt ≤ 199) ∧ ¬ (170 ≤ x.toInt ∧ x.toInt ≤ 171) ∧ ¬ (19 ≤ x.toInt ∧ x.toInt ≤ 22) ∧ x.toInt ≠ 25 ∧ ¬ (54 ≤ x.toInt ∧ x.toInt ≤ 55) ∧ x.toInt ≠ 58 ∧ x.toInt ≠ 132 ∧ ¬ (178 ≤ x.toInt ∧ x.toInt ≤ 179) ∧ x.toInt ≠ 184) : WelB V S o (x, y) := ⟨fun c => by have c' : (153 ≤ x.toInt ∧ x.toInt ≤ 167) ∨ x.toInt = 198 ∨ x.toInt = 199 := c; omega, fun c => by have c' : x.toInt = 170 ∨ x.toInt = 171 := c; omega, fun c => by have c' : x.toInt = 21 ∨ x.toInt = 22 ∨ x.toInt = 25 ∨ x.toInt = 54 ∨ x.toInt = 55 ∨ x.toInt = 58 ∨ x.toInt = 132 := c; omega, fun c => by have c' : x.toInt = 19 := c; omega, fun c => by have c' : x.toInt = 20 := c; omega, fun c => by have c' : x.toInt = 178 ∨ x.toInt = 179 := c; omega, fun c => by have c' : x.toInt = 184 := c; omega⟩
theorem cls_no (h : ¬ (153 ≤ x.toInt ∧ x.toInt ≤ 167) ∧ ¬ (198 ≤ x.toInt ∧ x.toInt ≤ 199) ∧ x.toInt ≠ 9 ∧ x.toInt ≠ 19 ∧ x.toInt ≠ 20 ∧ ¬ (178 ≤ x.toInt ∧ x.toInt ≤ 179) ∧ x.toInt ≠ 184) : clsF V S (x, y) = (x, y) := by
  unfold clsF
  show (if (153 ≤ x.toInt ∧ x.toInt ≤ 167) ∨ x.toInt = 198 ∨ x.toInt = 199 then _ else if x.toInt = 9 then _ else if x.toInt = 19 then _ else if x.toInt = 20 then _ else if x.toInt = 178 ∨ x.toInt = 179 then _ else if x.toInt = 184 then _ else (x, y)) = (x, y)
  rw [if_neg (by omega), if_neg (by omega), if_neg (by omega), if_neg (by omega), if_neg (by omega), if_neg (by omega)]
/-- one row, no pointing -/
theorem ie_push {a : Int32} (hz : z = ((17 : Int32), a.toInt64)) (h : ∃ w, RwP R w 18 a 0 ∧ oo = .inl w) : InsE V S R o z oo := by
  obtain ⟨w, hr, e⟩ := h
  rw [hz]
  refine Or.inl ⟨wel_no (by decide), w, e, Or.inl ⟨by decide, _, _, _, hr, ?_⟩⟩
  rw [cls_no (by decide)]
  exact Or.inl ⟨by decide, by decide, rfl, rfl⟩
theorem ie_loc (hz : z = (op, k.toInt64)) (hop : op.toInt = 21 ∨ op.toInt = 22 ∨ op.toInt = 25 ∨ op.toInt = 54 ∨ op.toInt = 55 ∨ op.toInt = 58) (k0 : 0 ≤ k.toInt ∧ k.toInt < 256) (hs : SrN R) (n0 : 0 ≤ (qI R 0 41).toInt ∧ (qI R 0 41).toInt ≤ 30000) (ml : qI R 0 46 = qI V 8 4) (h : v_localRow R o op k oo) : InsE V S R o z oo := by
  have kk := k255 k0.1 k0.2
  have W : WelB V S o z ↔ (k + fX6_localWidth V op).toInt ≤ (qI V 8 4).toInt := by
    rw [hz]
    constructor
    · intro hw
      have q := hw.2.2.1 (by show op.toInt = 21 ∨ _; omega)
      have q' : ((k.toInt64.toInt32 &&& (255 : Int32)) + fX6_localWidth V op).toInt ≤ (qI V 8 4).toInt := q
      rw [kk] at q'
      exact q'
    · intro hw
      refine ⟨fun c => by have c' : (153 ≤ op.toInt ∧ op.toInt ≤ 167) ∨ op.toInt = 198 ∨ op.toInt = 199 := c; omega, fun c => by have c' : op.toInt = 170 ∨ op.toInt = 171 := c; omega, fun _ => ?_, fun c => by have c' : op.toInt = 19 := c; omega, fun c => by have c' : op.toInt = 20 := c; omega, fun c => by have c' : op.toInt = 178 ∨ op.toInt = 179 := c; omega, fun c => by have c' : op.toInt = 184 := c; omega⟩
      show ((k.toInt64.toInt32 &&& (255 : Int32)) + fX6_localWidth V op).toInt ≤ (qI V 8 4).toInt
      rw [kk]
      exact hw
  rcases rv_localRow (S := V) hs n0 h with ⟨c, w, e, hr⟩ | ⟨c, e⟩
  · refine Or.inl ⟨W.mpr (by rw [← ml]; exact c), w, e, Or.inl ⟨by rw [hz]; show ¬ (op.toInt = 170 ∨ op.toInt = 171); omega, _, _, _, hr, ?_⟩⟩
    rw [hz, cls_no (by omega)]
    exact Or.inr (Or.inr (Or.inr ⟨by omega, rfl, rfl, rfl⟩))
  · exact Or.inr ⟨fun hw => by have := W.mp hw; rw [← ml] at this; omega, R, e⟩
theorem ie_grow (hz : z = ((132 : Int32), (((b.toInt64) <<< ((8 : Int32).toInt64 &&& 63)) ||| (k.toInt64)))) (k0 : 0 ≤ k.toInt ∧ k.toInt < 256) (hs : SrN R) (n0 : 0 ≤ (qI R 0 41).toInt ∧ (qI R 0 41).toInt ≤ 30000) (ml : qI R 0 46 = qI V 8 4) (m24 : (qI V 8 4).toInt ≤ 24) (h : v_grown R o k b oo) : InsE V S R o z oo := by
  have kk := gk255 (b := b) k0.1 k0.2
  have wd : fX6_localWidth V (132 : Int32) = 1 := rfl
  have k1 : (k + (1 : Int32)).toInt = k.toInt + 1 := by rw [t_add (by rw [li_1]; omega), li_1]
  have W : WelB V S o z ↔ k.toInt < (qI V 8 4).toInt := by
    rw [hz]
    constructor
    · intro hw
      have q := hw.2.2.1 (by decide)
      have q' : (((((b.toInt64) <<< ((8 : Int32).toInt64 &&& 63)) ||| (k.toInt64)).toInt32 &&& (255 : Int32)) + fX6_localWidth V 132).toInt ≤ (qI V 8 4).toInt := q
      rw [kk, wd, k1] at q'
      omega
    · intro hw
      refine ⟨fun c => absurd c (by decide), fun c => absurd c (by decide), fun _ => ?_, fun c => absurd c (by decide), fun c => absurd c (by decide), fun c => absurd c (by decide), fun c => absurd c (by decide)⟩
      show (((((b.toInt64) <<< ((8 : Int32).toInt64 &&& 63)) ||| (k.toInt64)).toInt32 &&& (255 : Int32)) + fX6_localWidth V 132).toInt ≤ (qI V 8 4).toInt
      rw [kk, wd, k1]
      omega
  rcases rv_grown hs n0 h with ⟨c, w, e, hr⟩ | ⟨c, e⟩
  · rw [ml] at c
    refine Or.inl ⟨W.mpr c, w, e, Or.inl ⟨by rw [hz]; decide, _, _, _, hr, ?_⟩⟩
    rw [hz, cls_no (by decide)]
    exact Or.inr (Or.inr (Or.inl ⟨by decide, by decide, rfl, k0.1, by omega⟩))
  · rw [ml] at c
    exact Or.inr ⟨fun hw => by have := W.mp hw; omega, R, e⟩
theorem ie_jump (hz : z = (op, y)) (hop : (153 ≤ op.toInt ∧ op.toInt ≤ 167) ∨ op.toInt = 198 ∨ op.toInt = 199) (hy : y.toInt = o.toInt + b.toInt) (hs : SrN R) (hc : CoE V R) (nr : NuR V R) (nc : NuC V) (o0 : 0 ≤ o.toInt ∧ o.toInt ≤ 1200) (n0 : 0 ≤ (qI R 0 41).toInt ∧ (qI R 0 41).toInt ≤ 30000) (h : JmV R o op b oo) : InsE V S R o z oo := by
  obtain ⟨TG1, TG2⟩ := tg_of (b := b) hc nr nc o0 hy
  have W : WelB V S o z ↔ (fX2_isInstruction V y).toInt ≠ 0 := by
    rw [hz]
    constructor
    · intro hw
      exact hw.1 hop
    · intro hw
      exact ⟨fun _ => hw, fun c => by have c' : op.toInt = 170 ∨ op.toInt = 171 := c; omega, fun c => by have c' : op.toInt = 21 ∨ op.toInt = 22 ∨ op.toInt = 25 ∨ op.toInt = 54 ∨ op.toInt = 55 ∨ op.toInt = 58 ∨ op.toInt = 132 := c; omega, fun c => by have c' : op.toInt = 19 := c; omega, fun c => by have c' : op.toInt = 20 := c; omega, fun c => by have c' : op.toInt = 178 ∨ op.toInt = 179 := c; omega, fun c => by have c' : op.toInt = 184 := c; omega⟩
  rcases h with ⟨r49, S50, h, w, hr, e⟩ | ⟨u9, h, e⟩
  · rcases rv_target h with ⟨z1, e1⟩ | ⟨-, e1⟩
    swap
    · exact nomatch e1
    injection e1 with e1
    injection e1 with e1 e2
    rw [e2] at hr
    have rw9 := rv_row hs n0 hr
    rw [e1, TG2 z1] at rw9
    refine Or.inl ⟨W.mpr (fun q => z1 (TG1.mpr q)), w, e, Or.inl ⟨by rw [hz]; show ¬ (op.toInt = 170 ∨ op.toInt = 171); omega, _, _, _, rw9, ?_⟩⟩
    have ec : clsF V S z = (op, (fX2_numberOf V y).toInt64) := by rw [hz]; exact if_pos hop
    rw [ec]
    exact Or.inr (Or.inr (Or.inr ⟨by omega, rfl, rfl, rfl⟩))
  · rcases rv_target h with ⟨-, e1⟩ | ⟨z1, e1⟩
    · exact nomatch e1
    injection e1 with e1
    exact Or.inr ⟨fun hw => W.mp hw (TG1.mp z1), R, by rw [e, e1]⟩
theorem ie_mem (hE : LyE S R) (pt : ∀ j, ptOK S j) (me : ∀ j : Int32, 0 ≤ j.toInt → j.toInt < ((qI S 9 7) + (qI S 9 8)).toInt → MeN S j) (tw : NtW S) (hd7 : (fX7_tagOf S (fX7_u2 S ((qI S 9 6) + (2 : Int32)))).toInt = 7) (hb : BtE V R) (hc : CoE V R) (o0 : 0 ≤ o.toInt) (o3 : o.toInt + 3 ≤ (qI V 8 2).toInt) (hz : z = (op, (fX2_u2 V (o + (1 : Int32))).toInt64)) (hop : ((op.toInt = 178 ∨ op.toInt = 179) ∧ t = 9) ∨ (op.toInt = 184 ∧ t = 10)) (n0 : 0 ≤ (qI R 0 41).toInt ∧ (qI R 0 41).toInt ≤ 30000) (h : MeV R o op t oo) : InsE V S R o z oo := by
  have ht : t.toInt = 9 ∨ t.toInt = 10 := by
    rcases hop with ⟨-, e⟩ | ⟨-, e⟩
    · rw [e]; decide
    · rw [e]; decide
  have W : WelB V S o z ↔ 0 ≤ (memF S (fX2_u2 V (o + (1 : Int32))) t).toInt := by
    rw [hz]
    constructor
    · intro hw
      rcases hop with ⟨c, e⟩ | ⟨c, e⟩
      · have q := hw.2.2.2.2.2.1 c
        have q' : 0 ≤ (memF S (fX2_u2 V (o + (1 : Int32))).toInt64.toInt32 9).toInt := q
        rw [Int32.toInt32_toInt64] at q'
        rw [e]; exact q'
      · have q := hw.2.2.2.2.2.2 c
        have q' : 0 ≤ (memF S (fX2_u2 V (o + (1 : Int32))).toInt64.toInt32 10).toInt := q
        rw [Int32.toInt32_toInt64] at q'
        rw [e]; exact q'
    · intro hw
      refine ⟨fun c => by have c' : (153 ≤ op.toInt ∧ op.toInt ≤ 167) ∨ op.toInt = 198 ∨ op.toInt = 199 := c; omega, fun c => by have c' : op.toInt = 170 ∨ op.toInt = 171 := c; omega, fun c => by have c' : op.toInt = 21 ∨ op.toInt = 22 ∨ op.toInt = 25 ∨ op.toInt = 54 ∨ op.toInt = 55 ∨ op.toInt = 58 ∨ op.toInt = 132 := c; omega, fun c => by have c' : op.toInt = 19 := c; omega, fun c => by have c' : op.toInt = 20 := c; omega, fun c => ?_, fun c => ?_⟩
      · have c' : op.toInt = 178 ∨ op.toInt = 179 := c
        show 0 ≤ (memF S (fX2_u2 V (o + (1 : Int32))).toInt64.toInt32 9).toInt
        rw [Int32.toInt32_toInt64]
        rcases hop with ⟨-, e⟩ | ⟨c2, e⟩
        · rw [e] at hw; exact hw
        · omega
      · have c' : op.toInt = 184 := c
        show 0 ≤ (memF S (fX2_u2 V (o + (1 : Int32))).toInt64.toInt32 10).toInt
        rw [Int32.toInt32_toInt64]
        rcases hop with ⟨c2, e⟩ | ⟨-, e⟩
        · omega
        · rw [e] at hw; exact hw
  rcases h with ⟨r64, S65, h, w, hr, e⟩ | ⟨u9, h, e⟩
  · rcases rv_member hE pt me tw hd7 hb hc o0 o3 ht h with ⟨z1, e1⟩ | ⟨-, e1⟩
    swap
    · exact nomatch e1
    injection e1 with e1
    injection e1 with e1 e2
    rw [e2, e1] at hr
    refine Or.inl ⟨W.mpr z1, w, e, Or.inl ⟨by rw [hz]; show ¬ (op.toInt = 170 ∨ op.toInt = 171); omega, _, _, _, rv_row hE.2.1 n0 hr, ?_⟩⟩
    have ec : clsF V S z = (op, (memF S (fX2_u2 V (o + (1 : Int32))) t).toInt64) := by
      rw [hz]
      unfold clsF
      show (if (153 ≤ op.toInt ∧ op.toInt ≤ 167) ∨ op.toInt = 198 ∨ op.toInt = 199 then _ else if op.toInt = 9 then _ else if op.toInt = 19 then _ else if op.toInt = 20 then _ else if op.toInt = 178 ∨ op.toInt = 179 then (op, (memF S (fX2_u2 V (o + (1 : Int32))).toInt64.toInt32 9).toInt64) else if op.toInt = 184 then (op, (memF S (fX2_u2 V (o + (1 : Int32))).toInt64.toInt32 10).toInt64) else _) = _
      rw [if_neg (by omega), if_neg (by omega), if_neg (by omega), if_neg (by omega), Int32.toInt32_toInt64]
      rcases hop with ⟨c2, e⟩ | ⟨c2, e⟩
      · rw [if_pos c2, e]
      · rw [if_neg (by omega), if_pos c2, e]
    rw [ec]
    exact Or.inr (Or.inr (Or.inr ⟨by omega, rfl, rfl, rfl⟩))
  · rcases rv_member hE pt me tw hd7 hb hc o0 o3 ht h with ⟨-, e1⟩ | ⟨z1, e1⟩
    · exact nomatch e1
    injection e1 with e1
    exact Or.inr ⟨fun hw => by have := W.mp hw; omega, R, by rw [e, e1]⟩
end IZ
