/-! numbers -/
theorem t_add {a b : Int32} (h : -2147483648 ≤ a.toInt + b.toInt ∧ a.toInt + b.toInt ≤ 2147483647) : (a + b).toInt = a.toInt + b.toInt := by
  rw [Int32.toInt_add]
  apply Int.bmod_eq_of_le <;> omega
theorem t_sub {a b : Int32} (h : -2147483648 ≤ a.toInt - b.toInt ∧ a.toInt - b.toInt ≤ 2147483647) : (a - b).toInt = a.toInt - b.toInt := by
  rw [Int32.toInt_sub]
  apply Int.bmod_eq_of_le <;> omega
theorem t_mul {a b : Int32} (h : -2147483648 ≤ a.toInt * b.toInt ∧ a.toInt * b.toInt ≤ 2147483647) : (a * b).toInt = a.toInt * b.toInt := by
  rw [Int32.toInt_mul]
  apply Int.bmod_eq_of_le <;> omega
theorem li_m4 : (-4 : Int32).toInt = -4 := by decide
theorem li_m3 : (-3 : Int32).toInt = -3 := by decide
theorem li_m2 : (-2 : Int32).toInt = -2 := by decide
theorem li_m1 : (-1 : Int32).toInt = -1 := by decide
theorem li_0 : (0 : Int32).toInt = 0 := by decide
theorem li_1 : (1 : Int32).toInt = 1 := by decide
theorem li_2 : (2 : Int32).toInt = 2 := by decide
theorem li_3 : (3 : Int32).toInt = 3 := by decide
theorem li_4 : (4 : Int32).toInt = 4 := by decide
theorem li_5 : (5 : Int32).toInt = 5 := by decide
theorem li_6 : (6 : Int32).toInt = 6 := by decide
theorem li_7 : (7 : Int32).toInt = 7 := by decide
theorem li_8 : (8 : Int32).toInt = 8 := by decide
theorem li_9 : (9 : Int32).toInt = 9 := by decide
theorem li_10 : (10 : Int32).toInt = 10 := by decide
theorem li_11 : (11 : Int32).toInt = 11 := by decide
theorem li_12 : (12 : Int32).toInt = 12 := by decide
theorem li_13 : (13 : Int32).toInt = 13 := by decide
theorem li_14 : (14 : Int32).toInt = 14 := by decide
theorem li_15 : (15 : Int32).toInt = 15 := by decide
theorem li_16 : (16 : Int32).toInt = 16 := by decide
theorem li_17 : (17 : Int32).toInt = 17 := by decide
theorem li_18 : (18 : Int32).toInt = 18 := by decide
theorem li_19 : (19 : Int32).toInt = 19 := by decide
theorem li_20 : (20 : Int32).toInt = 20 := by decide
theorem li_24 : (24 : Int32).toInt = 24 := by decide
theorem li_25 : (25 : Int32).toInt = 25 := by decide
theorem li_26 : (26 : Int32).toInt = 26 := by decide
theorem li_28 : (28 : Int32).toInt = 28 := by decide
theorem li_30 : (30 : Int32).toInt = 30 := by decide
theorem li_32 : (32 : Int32).toInt = 32 := by decide
theorem li_33 : (33 : Int32).toInt = 33 := by decide
theorem li_42 : (42 : Int32).toInt = 42 := by decide
theorem li_48 : (48 : Int32).toInt = 48 := by decide
theorem li_58 : (58 : Int32).toInt = 58 := by decide
theorem li_59 : (59 : Int32).toInt = 59 := by decide
theorem li_63 : (63 : Int32).toInt = 63 := by decide
theorem li_64 : (64 : Int32).toInt = 64 := by decide
theorem li_75 : (75 : Int32).toInt = 75 := by decide
theorem li_96 : (96 : Int32).toInt = 96 := by decide
theorem li_97 : (97 : Int32).toInt = 97 := by decide
theorem li_99 : (99 : Int32).toInt = 99 := by decide
theorem li_127 : (127 : Int32).toInt = 127 := by decide
theorem li_132 : (132 : Int32).toInt = 132 := by decide
theorem li_153 : (153 : Int32).toInt = 153 := by decide
theorem li_159 : (159 : Int32).toInt = 159 := by decide
theorem li_167 : (167 : Int32).toInt = 167 := by decide
theorem li_178 : (178 : Int32).toInt = 178 := by decide
theorem li_179 : (179 : Int32).toInt = 179 := by decide
theorem li_196 : (196 : Int32).toInt = 196 := by decide
theorem li_255 : (255 : Int32).toInt = 255 := by decide
theorem li_1200 : (1200 : Int32).toInt = 1200 := by decide
theorem li_1201 : (1201 : Int32).toInt = 1201 := by decide
theorem li_1296 : (1296 : Int32).toInt = 1296 := by decide
theorem li_20000 : (20000 : Int32).toInt = 20000 := by decide
theorem li_252645135 : (252645135 : Int32).toInt = 252645135 := by decide
theorem li_858993459 : (858993459 : Int32).toInt = 858993459 := by decide
theorem li_1431655765 : (1431655765 : Int32).toInt = 1431655765 := by decide
theorem lo_m1 : (Int32.ofInt (-1)).toInt = -1 := by decide
theorem lo_1 : (Int32.ofInt (1)).toInt = 1 := by decide
theorem lo_2 : (Int32.ofInt (2)).toInt = 2 := by decide
theorem lo_4 : (Int32.ofInt (4)).toInt = 4 := by decide
theorem lo_8 : (Int32.ofInt (8)).toInt = 8 := by decide
theorem lo_16 : (Int32.ofInt (16)).toInt = 16 := by decide
section RDS
variable {S : MS} {h i : Nat} {v : Int32} {w : Int64} {r : Option Nat}
theorem qI_wJ : qI (wJ S h i w) = qI S := rfl
theorem qI_wR : qI (wR S h i r) = qI S := rfl
theorem qJ_wI : qJ (wI S h i v) = qJ S := rfl
theorem qJ_wR : qJ (wR S h i r) = qJ S := rfl
theorem qR_wI : qR (wI S h i v) = qR S := rfl
theorem qR_wJ : qR (wJ S h i w) = qR S := rfl
theorem qT_wI : qT (wI S h i v) = qT S := rfl
theorem qT_wJ : qT (wJ S h i w) = qT S := rfl
theorem qT_wR : qT (wR S h i r) = qT S := rfl
theorem qN_wI : qN (wI S h i v) = qN S := rfl
theorem qN_wJ : qN (wJ S h i w) = qN S := rfl
theorem qN_wR : qN (wR S h i r) = qN S := rfl
theorem qn_wI : qn (wI S h i v) = qn S := rfl
theorem qn_wJ : qn (wJ S h i w) = qn S := rfl
theorem qn_wR : qn (wR S h i r) = qn S := rfl
end RDS
theorem c_and {z x m : Int32} {k b : Nat} (h : z = x &&& m) (hm : m.toBitVec.toNat = 2 ^ k - 1) (hk : k ≤ 30) (hb : 2 ^ k = b) : 0 ≤ z.toInt ∧ z.toInt < b := by
  obtain ⟨j, hj, e⟩ := pk_andE x k hm
  have h2 : 2 ^ k ≤ 2 ^ 30 := Nat.pow_le_pow_right (by decide) hk
  have h3 : (2 : Nat) ^ 30 < 2 ^ 31 := by decide
  rw [h, e, nI_toInt (by omega)]
  omega
theorem c_or {z x y : Int32} {k b : Nat} (h : z = x ||| y) (hb : 2 ^ k = b) (hk : k ≤ 30) (hx : 0 ≤ x.toInt ∧ x.toInt < b) (hy : 0 ≤ y.toInt ∧ y.toInt < b) : 0 ≤ z.toInt ∧ z.toInt < b := by
  have h2 : 2 ^ k ≤ 2 ^ 30 := Nat.pow_le_pow_right (by decide) hk
  have h3 : (2 : Nat) ^ 30 < 2 ^ 31 := by decide
  have ex : x = nI x.toInt.toNat := by
    apply Int32.toInt_inj.mp
    rw [nI_toInt (by omega)]
    omega
  have ey : y = nI y.toInt.toNat := by
    apply Int32.toInt_inj.mp
    rw [nI_toInt (by omega)]
    omega
  have hn : x.toInt.toNat ||| y.toInt.toNat < 2 ^ k := Nat.or_lt_two_pow (by omega) (by omega)
  have ez : z = nI (x.toInt.toNat ||| y.toInt.toNat) := by
    apply Int32.toBitVec_inj.mp
    apply BitVec.eq_of_toNat_eq
    rw [h, Int32.toBitVec_or, BitVec.toNat_or, pk_tn (by omega)]
    conv => lhs; rw [ex, ey]
    rw [pk_tn (by omega), pk_tn (by omega)]
  rw [ez, nI_toInt (by omega)]
  omega
theorem c_shl {z x y : Int32} {k j b c : Nat} (h : z = x <<< (y &&& 31)) (hs : ((y &&& 31).toBitVec.smod 32).toNat = k) (hb : 2 ^ j = b) (hc : 2 ^ (j + k) = c) (hk : j + k ≤ 30) (hx : 0 ≤ x.toInt ∧ x.toInt < b) : 0 ≤ z.toInt ∧ z.toInt < c := by
  have h2 : 2 ^ (j + k) ≤ 2 ^ 30 := Nat.pow_le_pow_right (by decide) hk
  have h3 : (2 : Nat) ^ 30 < 2 ^ 31 := by decide
  have ex : x = nI x.toInt.toNat := by
    apply Int32.toInt_inj.mp
    have : (2 : Nat) ^ j ≤ 2 ^ (j + k) := Nat.pow_le_pow_right (by decide) (by omega)
    rw [nI_toInt (by omega)]
    omega
  have hm : x.toInt.toNat * 2 ^ k < 2 ^ (j + k) := by
    rw [Nat.pow_add]
    exact Nat.mul_lt_mul_of_pos_right (by omega) (Nat.two_pow_pos k)
  have ez : z = nI (x.toInt.toNat * 2 ^ k) := by
    rw [h]
    conv => lhs; rw [ex]
    exact pk_shlN _ k hs (by omega)
  rw [ez, nI_toInt (by omega)]
  omega
theorem c_and64 {a : Int64} : 0 ≤ (a &&& (4294967295 : Int64)).toInt ∧ (a &&& (4294967295 : Int64)).toInt ≤ 4294967295 := by
  have h1 : (a &&& (4294967295 : Int64)).toBitVec.toNat ≤ 4294967295 := by
    rw [Int64.toBitVec_and, BitVec.toNat_and]
    exact Nat.and_le_right
  have h2 : (a &&& (4294967295 : Int64)).toInt = ((a &&& (4294967295 : Int64)).toBitVec.toNat : Int) := by
    rw [← Int64.toInt_toBitVec]
    exact BitVec.toInt_eq_toNat_of_lt (by omega)
  omega
theorem c_cmp {x y : Int64} : ((lg_cmp x y).toInt = 1 ∧ y.toInt < x.toInt) ∨ ((lg_cmp x y).toInt = 0 ∧ x.toInt = y.toInt) ∨ ((lg_cmp x y).toInt = -1 ∧ x.toInt < y.toInt) := by
  unfold lg_cmp
  split
  · rename_i q
    exact Or.inl ⟨by decide, Int64.lt_iff_toInt_lt.mp q⟩
  · split
    · rename_i q1 q
      exact Or.inr (Or.inl ⟨by decide, by rw [q]⟩)
    · rename_i q1 q2
      refine Or.inr (Or.inr ⟨by decide, ?_⟩)
      have h5 : x.toInt ≠ y.toInt := fun e => q2 (Int64.toInt_inj.mp e)
      have h4 : ¬ y.toInt < x.toInt := fun e => q1 (Int64.lt_iff_toInt_lt.mpr e)
      omega
theorem c_le {x y : Int64} : (lg_cmp x y).toInt ≤ 0 ↔ x.toInt ≤ y.toInt := by
  have := c_cmp (x := x) (y := y)
  omega
