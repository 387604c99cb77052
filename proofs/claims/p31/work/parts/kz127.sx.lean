/-! rule 16: a switch, whole -/
def swN (V : MS) (op q : Int32) : Int32 := if op.toInt = 170 then (fX2_s4 V (q + (8 : Int32)) - fX2_s4 V (q + (4 : Int32))) + (1 : Int32) else fX2_s4 V (q + (4 : Int32))
/-- a switch as the reference lays it: its table, then its row -/
def SwR (V R w : MS) (o op : Int32) : Prop := ∃ U, TbS V R o op (fX2_numbersOf V o) (fX2_s4 V (fX2_numbersOf V o + (4 : Int32))) (qI R 0 43).toInt.toNat (swN V op (fX2_numbersOf V o)).toInt U ∧ RwP U w op (qI R 0 43) (swN V op (fX2_numbersOf V o))
def SwG (V : MS) (o op : Int32) : Prop := ∀ i : Int32, -1 ≤ i.toInt → i.toInt < (swN V op (fX2_numbersOf V o)).toInt → (fX2_isInstruction V (swT V o op (fX2_numbersOf V o) i)).toInt ≠ 0
section SX
variable {S S' S0 R R' T V U u w : MS} {x y z r c v e len o N i x1 k t a b f pr g op q low fst many : Int32} {p tt : Nat} {oo : MS ⊕ MS}
theorem sw_170 (o0 : 0 ≤ o.toInt) (o1 : o.toInt ≤ 1200) (h2 : (qI V 8 2).toInt ≤ 1200) (hu : (fX2_u1 V o).toInt = 170) (hl : 0 < (laF V o).toInt) (hop : op.toInt = 170) : (fX2_numbersOf V o).toInt + 12 + 4 * (swN V op (fX2_numbersOf V o)).toInt ≤ (qI V 8 2).toInt ∧ 1 ≤ (swN V op (fX2_numbersOf V o)).toInt ∧ (swN V op (fX2_numbersOf V o)).toInt ≤ 201 := by
  obtain ⟨-, nb2, nb3⟩ := nb_eq (R := V) (S := V) o0 o1
  obtain ⟨-, l2⟩ := rg_la (S := V) (o := o) ⟨o0, o1⟩
  rcases l2 with z | ⟨e, l2⟩
  · omega
  rw [e] at hl l2
  have el : lrF V o = fX2_tableLength V o := by unfold lrF; rw [if_pos hu]
  rw [el] at hl l2
  unfold fX2_tableLength at hl l2
  unfold swN
  rw [if_pos hop]
  obtain ⟨q, eq⟩ : ∃ q : Int32, q = fX2_numbersOf V o := ⟨_, rfl⟩
  rw [← eq] at nb2 nb3 hl l2 ⊢
  obtain ⟨A, eA⟩ : ∃ A : Int32, A = fX2_s4 V (q + (8 : Int32)) := ⟨_, rfl⟩
  obtain ⟨B, eB⟩ : ∃ B : Int32, B = fX2_s4 V (q + (4 : Int32)) := ⟨_, rfl⟩
  rw [← eA, ← eB] at hl l2 ⊢
  have rA := rgI A
  have rB := rgI B
  have l0 : (0 : Int64).toInt = 0 := by decide
  have l200 : (200 : Int64).toInt = 200 := by decide
  have z0 : (0 : Int32).toInt = 0 := rfl
  have sp : (A.toInt64 - B.toInt64).toInt = A.toInt - B.toInt := by rw [tl_sub (by rw [tl_of, tl_of]; omega), tl_of, tl_of]
  have q12 : (q + (12 : Int32)).toInt = q.toInt + 12 := by rw [t_add (by rw [li_12]; omega), li_12]
  have q16 : (q + (16 : Int32)).toInt = q.toInt + 16 := by rw [t_add (by rw [li_16]; omega), li_16]
  rw [c_ls, l0, c_le, l200, sp, q12] at hl l2
  by_cases c1 : (qI V 8 2).toInt < q.toInt + 12
  · rw [if_pos c1, z0] at hl; omega
  rw [if_neg c1] at hl l2
  by_cases c2 : A.toInt - B.toInt < 0
  · rw [if_pos c2, z0] at hl; omega
  rw [if_neg c2] at hl l2
  by_cases c3 : A.toInt - B.toInt ≤ 200
  swap
  · rw [if_neg c3, z0] at hl; omega
  rw [if_pos c3] at hl l2
  have ex : (A.toInt64 - B.toInt64).toInt32.toInt = A.toInt - B.toInt := by rw [tl_to (by rw [sp]; omega), sp]
  have m4 : ((4 : Int32) * (A.toInt64 - B.toInt64).toInt32).toInt = 4 * (A.toInt - B.toInt) := by rw [t_mul (by rw [li_4, ex]; omega), li_4, ex]
  have ev : (((q + (16 : Int32)) + ((4 : Int32) * (A.toInt64 - B.toInt64).toInt32)) - o).toInt = q.toInt + 16 + 4 * (A.toInt - B.toInt) - o.toInt := by
    rw [t_sub (by rw [t_add (by omega), q16, m4]; omega), t_add (by omega), q16, m4]
  rw [ev] at l2
  have en : ((A - B) + (1 : Int32)).toInt = A.toInt - B.toInt + 1 := by
    have q := t_sub (a := A) (b := B) (by omega)
    rw [t_add (by rw [li_1]; omega), li_1, q]
  rw [en]
  omega
theorem sw_171 (o0 : 0 ≤ o.toInt) (o1 : o.toInt ≤ 1200) (h2 : (qI V 8 2).toInt ≤ 1200) (hu : (fX2_u1 V o).toInt = 171) (hl : 0 < (laF V o).toInt) (hop : op.toInt = 171) : (fX2_numbersOf V o).toInt + 8 + 8 * (swN V op (fX2_numbersOf V o)).toInt ≤ (qI V 8 2).toInt ∧ 0 ≤ (swN V op (fX2_numbersOf V o)).toInt ∧ (swN V op (fX2_numbersOf V o)).toInt ≤ 200 := by
  obtain ⟨-, nb2, nb3⟩ := nb_eq (R := V) (S := V) o0 o1
  obtain ⟨-, l2⟩ := rg_la (S := V) (o := o) ⟨o0, o1⟩
  rcases l2 with z | ⟨e, l2⟩
  · omega
  rw [e] at hl
  have el : lrF V o = llF V o := by unfold lrF; rw [if_neg (by omega), if_pos hu]
  rw [el] at hl
  unfold llF at hl
  unfold swN
  rw [if_neg (by omega)]
  obtain ⟨q, eq⟩ : ∃ q : Int32, q = fX2_numbersOf V o := ⟨_, rfl⟩
  rw [← eq] at nb2 nb3 hl ⊢
  obtain ⟨B, eB⟩ : ∃ B : Int32, B = fX2_s4 V (q + (4 : Int32)) := ⟨_, rfl⟩
  rw [← eB] at hl ⊢
  have z0 : (0 : Int32).toInt = 0 := rfl
  have q8 : (q + (8 : Int32)).toInt = q.toInt + 8 := by rw [t_add (by rw [li_8]; omega), li_8]
  rw [q8] at hl
  by_cases c1 : (qI V 8 2).toInt < q.toInt + 8
  · rw [if_pos c1, z0] at hl; omega
  rw [if_neg c1] at hl
  by_cases c2 : B.toInt < 0
  · rw [if_pos c2, z0] at hl; omega
  rw [if_neg c2] at hl
  by_cases c3 : 200 < B.toInt
  · rw [if_pos c3, z0] at hl; omega
  rw [if_neg c3] at hl
  have m8 : ((8 : Int32) * B).toInt = 8 * B.toInt := by rw [t_mul (by rw [li_8]; omega), li_8]
  have ev : ((q + (8 : Int32)) + ((8 : Int32) * B)).toInt = q.toInt + 8 + 8 * B.toInt := by rw [t_add (by omega), q8, m8]
  rw [ev] at hl
  by_cases c4 : q.toInt + 8 + 8 * B.toInt ≤ (qI V 8 2).toInt
  · omega
  · rw [if_neg c4, z0] at hl; omega
theorem rv_switched (hb : BtE V R) (hs : SrN R) (hc : CoE V R) (nr : NuR V R) (nc : NuC V) (o0 : 0 ≤ o.toInt) (o1 : o.toInt < (qI V 8 2).toInt) (hop : op.toInt = 170 ∨ op.toInt = 171) (hu : fX2_u1 V o = op) (hl : 0 < (laF V o).toInt) (r41 : (qI R 0 41).toInt ≤ 30000 ∧ 0 ≤ (qI R 0 41).toInt) (h : v_switched R o op oo) : (SwG V o op ∧ ∃ w, oo = .inl w ∧ SwR V R w o op) ∨ (¬ SwG V o op ∧ ∃ W, oo = .inr (rBk W 16 ((qI R 0 36) + o))) := by
  have c34 := hc.2.1
  obtain ⟨nb1, nb2, nb3⟩ := nb_eq (R := R) (S := V) o0 (by omega)
  have hq : ((op.toInt = 170 ∧ (fX2_numbersOf V o).toInt + 12 + 4 * (swN V op (fX2_numbersOf V o)).toInt ≤ (qI V 8 2).toInt) ∨ (op.toInt = 171 ∧ (fX2_numbersOf V o).toInt + 8 + 8 * (swN V op (fX2_numbersOf V o)).toInt ≤ (qI V 8 2).toInt)) ∧ 0 ≤ (swN V op (fX2_numbersOf V o)).toInt ∧ (swN V op (fX2_numbersOf V o)).toInt ≤ 201 := by
    rcases hop with z | z
    · have q := sw_170 o0 (by omega) c34.2 (by rw [hu]; exact z) hl z
      exact ⟨Or.inl ⟨z, q.1⟩, by omega, q.2.2⟩
    · have q := sw_171 o0 (by omega) c34.2 (by rw [hu]; exact z) hl z
      exact ⟨Or.inr ⟨z, q.1⟩, q.2.1, by omega⟩
  unfold SwG SwR
  obtain ⟨q, eq⟩ : ∃ q : Int32, q = fX2_numbersOf V o := ⟨_, rfl⟩
  rw [← eq] at nb1 nb2 nb3 hq ⊢
  obtain ⟨hq, n0, n1⟩ := hq
  have q4 : (q + (4 : Int32)).toInt = q.toInt + 4 := by rw [t_add (by rw [li_4]; omega), li_4]
  have q8 : (q + (8 : Int32)).toInt = q.toInt + 8 := by rw [t_add (by rw [li_8]; omega), li_8]
  have q12 : q.toInt + 8 ≤ (qI V 8 2).toInt ∧ (op.toInt = 170 → q.toInt + 12 ≤ (qI V 8 2).toInt) := by
    rcases hq with ⟨z, hq⟩ | ⟨z, hq⟩ <;> omega
  have mm : (-1 : Int32).toInt = -1 := by decide
  have eT : swT V o op q (-1) = o.toInt64 + (fX2_s4 V q).toInt64 := if_pos (by decide)
  obtain ⟨-, a4, e4, a5, e5, -, h⟩ := h
  rw [nb1] at e4
  rw [e4, hc.s4 hb (by omega) (by omega)] at h
  obtain ⟨TG1, TG2⟩ := tg_of (b := fX2_s4 V q) hc nr nc ⟨o0, by omega⟩ (swT_i eT)
  rcases h with ⟨r10, S11, h10, gd, S14, e14, S16, e16, -, a21, e21, h⟩ | ⟨u9, h10, h⟩
  · rcases rv_target h10 with ⟨z, e⟩ | ⟨-, e⟩
    swap
    · exact nomatch e
    injection e with e
    injection e with e1 e2
    rw [TG2 z] at e1
    rw [e2] at e14
    have x43 : qI S14 0 43 = qI R 0 43 := by rw [e14, g_ne (by decide)]
    have s14 : smB R S14 := by rw [e14]; exact sm_wr hs (by decide) (by decide)
    have s16 : smB R S16 := s14.tr (by rw [e16]; exact sm_wr (hs.sm s14) (by decide) (by decide))
    have i16 : ∀ j, j ≠ 43 → qI S16 0 j = qI R 0 j := fun j hj => by rw [e16, g_nf hj, e14, g_ne (by decide)]
    have T0 : TbS V R o op q (fX2_s4 V (q + (4 : Int32))) (qI R 0 43).toInt.toNat 0 S16 := by
      refine ⟨s16, i16, fun h h0 h1 => by rw [e16, rdH h0, e14, rdH h1], ?_, ?_, fun i i0 i1 => by omega, fun j hj => ?_, ?_, ?_, ?_, ?_⟩
      · rw [e16, g_eq, x43, t_add (by rw [li_1]; omega), li_1]
        omega
      · rw [e16, g_ne (by decide), e14, g_eq, e1]
      · rw [e16, g_ne (by decide), e14, g_nf (by omega)]
      · rw [e16, e14]; rfl
      · rw [e16, e14]; rfl
      · rw [e16, e14]; rfl
      · rw [e16, e14]; rfl
    have hc16 : CoE V S16 := ⟨⟨by rw [i16 36 (by decide)]; exact hc.1.1, by rw [i16 37 (by decide)]; exact hc.1.2⟩, hc.2⟩
    have hb16 : BtE V S16 := hb.mv smX.rf s16 (i16 12 (by decide))
    rw [hc16.s4 hb16 (by omega) (by omega)] at e21
    have h2 : ∃ n, v_switched_L79 oo n S16 o op q a5 (fX2_s4 V (q + (4 : Int32))) (swN V op q) 0 := by
      unfold swN
      rcases h with ⟨z, -, n, h⟩ | ⟨z, n, h⟩
      · rw [hc16.s4 hb16 (by omega) (by omega), e21] at h
        rw [if_pos z]
        exact ⟨n, h⟩
      · rw [e21] at h
        rw [if_neg z]
        exact ⟨n, h⟩
    obtain ⟨n, h⟩ := h2
    rw [e5] at h
    rcases rv_swS (fst := qI R 0 43) (kk := 0) hb hs hc nr nc ⟨o0, by omega⟩ hop ⟨by omega, by omega⟩ hq (by omega) n (U := S16) (k := 0) T0 (by decide) n0 (by omega) r41 h with ⟨K1, w, U, k2, k3, k4⟩ | ⟨⟨i, i0, i1, i2⟩, K⟩
    · refine Or.inl ⟨fun i i0 i1 => ?_, w, k2, U, k3, k4⟩
      by_cases c9 : i.toInt = -1
      · rw [show i = -1 from Int32.toInt_inj.mp (by rw [c9, mm])]
        exact fun q => z (TG1.mpr q)
      · exact K1 i (by rw [show (0 : Int32).toInt = 0 from rfl]; omega) i1
    · exact Or.inr ⟨fun K1 => K1 i (by rw [show (0 : Int32).toInt = 0 from rfl] at i0; omega) i1 i2, K⟩
  · rcases rv_target h10 with ⟨-, e⟩ | ⟨z, e⟩
    · exact nomatch e
    injection e with e
    exact Or.inr ⟨fun K1 => K1 (-1) (by decide) (by rw [mm]; omega) (TG1.mp z), R, by rw [h, e]⟩
end SX
