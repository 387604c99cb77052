/-! class and reference read the same bytes -/
theorem s4_bits {a b c d : BitVec 32} : (a <<< 24 ||| (b &&& 255#32) <<< 16 ||| (c &&& 255#32) <<< 8 ||| (d &&& 255#32)) = (((a &&& 255#32) <<< 8 ||| (b &&& 255#32)) <<< 16) ||| ((c &&& 255#32) <<< 8 ||| (d &&& 255#32)) := by
  apply BitVec.eq_of_getLsbD_eq
  intro i hi
  have m255 : ∀ i : Nat, (255#32).getLsbD i = decide (i < 8) := fun i => by
    by_cases c : i < 32
    · have z : ∀ i : Fin 32, (255#32).getLsbD i.val = decide (i.val < 8) := by decide
      exact z ⟨i, c⟩
    · rw [BitVec.getLsbD_of_ge _ _ (by omega), show decide (i < 8) = false by simp; omega]
  simp only [BitVec.getLsbD_or, BitVec.getLsbD_shiftLeft, BitVec.getLsbD_and, m255]
  have d0 : decide (i < 32) = true := decide_eq_true hi
  rw [d0]
  by_cases c1 : i < 8
  · rw [show decide (i < 24) = true by simp; omega, show decide (i < 16) = true by simp; omega, show decide (i < 8) = true by simp [c1]]
    simp
  · by_cases c2 : i < 16
    · rw [show decide (i < 24) = true by simp; omega, show decide (i < 16) = true by simp [c2], show decide (i < 8) = false by simp; omega, show decide (i - 8 < 8) = true by simp; omega]
      simp
    · by_cases c3 : i < 24
      · rw [show decide (i < 24) = true by simp [c3], show decide (i < 16) = false by simp; omega, show decide (i < 8) = false by simp; omega, show decide (i - 16 < 8) = true by simp; omega, show decide (i - 8 < 8) = false by simp; omega, show decide (i - 16 < 32) = true by simp; omega]
        simp
      · rw [show decide (i < 24) = false by simp; omega, show decide (i < 16) = false by simp; omega, show decide (i < 8) = false by simp; omega, show decide (i - 16 < 8) = false by simp; omega, show decide (i - 8 < 8) = false by simp; omega, show decide (i - 16 < 32) = true by simp; omega, show i - 16 - 8 = i - 24 by omega, show decide (i - 24 < 8) = true by simp; omega]
        simp
theorem s4_eq {a b c d : Int32} : (((a <<< ((24 : Int32) &&& 31)) ||| ((b &&& (255 : Int32)) <<< ((16 : Int32) &&& 31))) ||| ((c &&& (255 : Int32)) <<< ((8 : Int32) &&& 31))) ||| (d &&& (255 : Int32)) = ((((a &&& (255 : Int32)) <<< ((8 : Int32) &&& 31)) ||| (b &&& (255 : Int32))) <<< ((16 : Int32) &&& 31)) ||| (((c &&& (255 : Int32)) <<< ((8 : Int32) &&& 31)) ||| (d &&& (255 : Int32))) := by
  apply Int32.toBitVec_inj.mp
  have e24 : (((24 : Int32) &&& 31).toBitVec.smod 32) = 24#32 := by decide
  have e16 : (((16 : Int32) &&& 31).toBitVec.smod 32) = 16#32 := by decide
  have e8 : (((8 : Int32) &&& 31).toBitVec.smod 32) = 8#32 := by decide
  have e255 : (255 : Int32).toBitVec = 255#32 := by decide
  simp only [Int32.toBitVec_or, Int32.toBitVec_shiftLeft, Int32.toBitVec_and, e24, e16, e8, e255]
  have n24 : (24#32).toNat = 24 := by decide
  have n16 : (16#32).toNat = 16 := by decide
  have n8 : (8#32).toNat = 8 := by decide
  simp only [BitVec.shiftLeft_eq', n24, n16, n8]
  exact s4_bits
def BtE (S R : MS) : Prop := qI R 0 12 = qI S 9 1 ∧ (0 ≤ (qI S 9 1).toInt ∧ (qI S 9 1).toInt ≤ 131072 ∧ (qI S 9 1).toInt ≤ (qN S (qO S 9 0) : Int)) ∧ ∀ p : Nat, (p : Int) < (qI S 9 1).toInt → qI S (qO S 9 0) p = qI R (qO R 0 11) p ∧ -128 ≤ (qI R (qO R 0 11) p).toInt ∧ (qI R (qO R 0 11) p).toInt ≤ 127
section BY
variable {S R u v : MS} {x : Int32}
theorem BtE.mv (h : BtE S R) (s : smX S u) (t : smB R v) (e : qI v 0 12 = qI R 0 12) : BtE u v := by
  obtain ⟨h1, h2, h3⟩ := h
  refine ⟨by rw [e, h1, s.1], ?_, fun p hp => ?_⟩
  · rw [s.1, s.2.1, s.2.2.1]
    exact h2
  · rw [s.1] at hp
    rw [s.2.1, s.2.2.2, t.bt]
    exact h3 p hp
theorem and255 {x : Int32} (h : -128 ≤ x.toInt ∧ x.toInt ≤ 127) : (x &&& (255 : Int32)).toInt = if x.toInt < 0 then x.toInt + 256 else x.toInt := by
  have z : ∀ n : Fin 256, (Int32.ofInt ((n.val : Int) - 128) &&& (255 : Int32)).toInt = if (n.val : Int) - 128 < 0 then (n.val : Int) - 128 + 256 else (n.val : Int) - 128 := by decide +kernel
  obtain ⟨n, hn⟩ : ∃ n : Fin 256, (n.val : Int) - 128 = x.toInt := ⟨⟨(x.toInt + 128).toNat, by omega⟩, by
    show (((x.toInt + 128).toNat : Nat) : Int) - 128 = _
    omega⟩
  have q := z n
  rw [hn, Int32.ofInt_toInt] at q
  exact q
theorem BtE.u1 (h : BtE S R) (h0 : 0 ≤ x.toInt) (h1 : x.toInt < (qI S 9 1).toInt) : fX7_u1 S x = f_octet R x := by
  unfold fX7_u1 f_octet
  have h2 := h.2.1
  rw [if_neg (by omega), if_neg (by omega), if_pos (by omega), (h.2.2 x.toInt.toNat (by omega)).1]
theorem bt_u1 (h : BtE S R) (h0 : 0 ≤ x.toInt) (h1 : x.toInt < (qI S 9 1).toInt) : fX7_u1 S x = (qI R (qO R 0 11) x.toInt.toNat) &&& (255 : Int32) := h.u1 h0 h1
theorem BtE.u2 (h : BtE S R) (h0 : 0 ≤ x.toInt) (h1 : x.toInt + 2 ≤ (qI S 9 1).toInt) : fX7_u2 S x = f_two R x := by
  have h2 := h.2.1
  have a1 : (x + (1 : Int32)).toInt = x.toInt + 1 := by rw [t_add (by rw [li_1]; omega), li_1]
  have a2 : ((qI S 9 1) - (2 : Int32)).toInt = (qI S 9 1).toInt - 2 := by rw [t_sub (by rw [li_2]; omega), li_2]
  unfold fX7_u2 f_two f_octet
  rw [if_neg (by omega), a2, if_neg (by omega), if_pos (by omega), (h.2.2 x.toInt.toNat (by omega)).1, (h.2.2 (x + (1 : Int32)).toInt.toNat (by omega)).1]
theorem BtE.s4 (h : BtE S R) (h0 : 0 ≤ x.toInt) (h1 : x.toInt + 4 ≤ (qI S 9 1).toInt) : fX7_s4 S x = f_four R x := by
  have h2 := h.2.1
  have a1 : (x + (1 : Int32)).toInt = x.toInt + 1 := by rw [t_add (by rw [li_1]; omega), li_1]
  have b2 : (x + (2 : Int32)).toInt = x.toInt + 2 := by rw [t_add (by rw [li_2]; omega), li_2]
  have b3 : (x + (3 : Int32)).toInt = x.toInt + 3 := by rw [t_add (by rw [li_3]; omega), li_3]
  have c3 : ((x + (2 : Int32)) + (1 : Int32)).toInt = x.toInt + 3 := by rw [t_add (by rw [li_1]; omega), li_1, b2]; omega
  have e3 : (x + (2 : Int32)) + (1 : Int32) = x + (3 : Int32) := Int32.toInt_inj.mp (by rw [c3, b3])
  have a2 : ((qI S 9 1) - (4 : Int32)).toInt = (qI S 9 1).toInt - 4 := by rw [t_sub (by rw [li_4]; omega), li_4]
  unfold fX7_s4 f_four f_two f_octet
  rw [if_neg (by omega), a2, if_neg (by omega), if_pos (by omega), e3, (h.2.2 x.toInt.toNat (by omega)).1, (h.2.2 (x + (1 : Int32)).toInt.toNat (by omega)).1, (h.2.2 (x + (2 : Int32)).toInt.toNat (by omega)).1, (h.2.2 (x + (3 : Int32)).toInt.toNat (by omega)).1]
  exact s4_eq
end BY
