/-! rule 16: one instruction -/
/-- the instruction at o, decoded as z, points well -/
def WelB (V S : MS) (o : Int32) (z : Int32 × Int64) : Prop := (((153 ≤ z.1.toInt ∧ z.1.toInt ≤ 167) ∨ z.1.toInt = 198 ∨ z.1.toInt = 199) → (fX2_isInstruction V z.2).toInt ≠ 0) ∧ ((z.1.toInt = 170 ∨ z.1.toInt = 171) → SwG V o z.1) ∧ ((z.1.toInt = 21 ∨ z.1.toInt = 22 ∨ z.1.toInt = 25 ∨ z.1.toInt = 54 ∨ z.1.toInt = 55 ∨ z.1.toInt = 58 ∨ z.1.toInt = 132) → (((z.2.toInt32) &&& (255 : Int32)) + fX6_localWidth V z.1).toInt ≤ (qI V 8 4).toInt) ∧ (z.1.toInt = 19 → (fX7_tagOf S z.2.toInt32).toInt = 3) ∧ (z.1.toInt = 20 → (fX7_tagOf S z.2.toInt32).toInt = 5) ∧ ((z.1.toInt = 178 ∨ z.1.toInt = 179) → 0 ≤ (memF S z.2.toInt32 9).toInt) ∧ (z.1.toInt = 184 → 0 ≤ (memF S z.2.toInt32 10).toInt)
/-- what the class lays of it (but a switch) -/
def clsF (V S : MS) (z : Int32 × Int64) : Int32 × Int64 := if (153 ≤ z.1.toInt ∧ z.1.toInt ≤ 167) ∨ z.1.toInt = 198 ∨ z.1.toInt = 199 then (z.1, (fX2_numberOf V z.2).toInt64) else if z.1.toInt = 9 then ((20 : Int32), z.2) else if z.1.toInt = 19 then ((17 : Int32), (fX7_s4 S (fX7_entryAt S z.2.toInt32 + (1 : Int32))).toInt64) else if z.1.toInt = 20 then ((20 : Int32), fX2_longAt S (fX7_entryAt S z.2.toInt32 + (1 : Int32))) else if z.1.toInt = 178 ∨ z.1.toInt = 179 then (z.1, (memF S z.2.toInt32 9).toInt64) else if z.1.toInt = 184 then (z.1, (memF S z.2.toInt32 10).toInt64) else z
/-- the class's instruction x, y is the reference's op, a, b -/
def EqI (x : Int32) (y : Int64) (op a b : Int32) : Prop := (x.toInt = 17 ∧ op.toInt = 18 ∧ y = a.toInt64 ∧ b = 0) ∨ (x.toInt = 20 ∧ op.toInt = 20 ∧ y = ((a.toInt64 <<< ((32 : Int32).toInt64 &&& 63)) ||| (b.toInt64 &&& (4294967295 : Int64)))) ∨ (x.toInt = 132 ∧ op.toInt = 132 ∧ y = ((b.toInt64 <<< ((8 : Int32).toInt64 &&& 63)) ||| a.toInt64) ∧ 0 ≤ a.toInt ∧ a.toInt < 24) ∨ ((x.toInt ≠ 17 ∧ x.toInt ≠ 20 ∧ x.toInt ≠ 132 ∧ x.toInt ≠ 170 ∧ x.toInt ≠ 171) ∧ op = x ∧ y = a.toInt64 ∧ b = 0)
def InsR (V S R w : MS) (o : Int32) (z : Int32 × Int64) : Prop := (¬ (z.1.toInt = 170 ∨ z.1.toInt = 171) ∧ ∃ op a b, RwP R w op a b ∧ EqI (clsF V S z).1 (clsF V S z).2 op a b) ∨ ((z.1.toInt = 170 ∨ z.1.toInt = 171) ∧ SwR V R w o z.1)
/-- both sides of one instruction: it points well and is laid, or rule 16 is broken at it -/
def InsE (V S R : MS) (o : Int32) (z : Int32 × Int64) (oo : MS ⊕ MS) : Prop := (WelB V S o z ∧ ∃ w, oo = .inl w ∧ InsR V S R w o z) ∨ (¬ WelB V S o z ∧ ∃ W, oo = .inr (rBk W 16 ((qI R 0 36) + o)))
section IS
variable {S S' S0 R R' T V U u w : MS} {x z' r c v e len o N i x1 k t a b f pr g op q low fst many : Int32} {y : Int64} {z : Int32 × Int64} {p tt : Nat} {oo : MS ⊕ MS}
theorem ij_r : (fX6_isJump V r).toInt = 0 ↔ ¬ ((153 ≤ r.toInt ∧ r.toInt ≤ 167) ∨ r.toInt = 198 ∨ r.toInt = 199) := by
  have o1 : ¬ (1 : Int32).toInt = 0 := by decide
  have o0 : (0 : Int32).toInt = 0 := rfl
  have J14 : (f_X6_isJump_J14 V r).toInt = 0 ↔ ¬ (r.toInt = 198 ∨ r.toInt = 199) := by
    unfold f_X6_isJump_J14 f_X6_isJump_J28
    by_cases c : r.toInt = 198
    · rw [if_pos c]; exact ⟨fun h => absurd h o1, fun h => absurd (Or.inl c) h⟩
    · rw [if_neg c]
      by_cases c2 : r.toInt = 199
      · rw [if_pos c2]; exact ⟨fun h => absurd h o1, fun h => absurd (Or.inr c2) h⟩
      · rw [if_neg c2]; exact ⟨fun _ => by omega, fun _ => o0⟩
  unfold fX6_isJump f_X6_isJump_J28
  by_cases c : r.toInt < 153
  · rw [if_pos c, J14]; omega
  · rw [if_neg c]
    by_cases c2 : r.toInt ≤ 167
    · rw [if_pos c2]; exact ⟨fun h => absurd h o1, fun h => by omega⟩
    · rw [if_neg c2, J14]; omega
theorem isw_r : (fX6_isSwitch V r).toInt = 0 ↔ ¬ (r.toInt = 170 ∨ r.toInt = 171) := by
  have o1 : ¬ (1 : Int32).toInt = 0 := by decide
  have o0 : (0 : Int32).toInt = 0 := rfl
  unfold fX6_isSwitch f_X6_isSwitch_J14
  by_cases c : r.toInt = 170
  · rw [if_pos c]; exact ⟨fun h => absurd h o1, fun h => absurd (Or.inl c) h⟩
  · rw [if_neg c]
    by_cases c2 : r.toInt = 171
    · rw [if_pos c2]; exact ⟨fun h => absurd h o1, fun h => absurd (Or.inr c2) h⟩
    · rw [if_neg c2]; exact ⟨fun _ => by omega, fun _ => o0⟩
theorem ul_r : (fX6_usesLocal V r).toInt = 0 ↔ ¬ (r.toInt = 21 ∨ r.toInt = 22 ∨ r.toInt = 25 ∨ r.toInt = 54 ∨ r.toInt = 55 ∨ r.toInt = 58 ∨ r.toInt = 132) := by
  have o1 : ¬ (1 : Int32).toInt = 0 := by decide
  have o0 : (0 : Int32).toInt = 0 := rfl
  constructor
  · intro h hc
    unfold fX6_usesLocal fX6_isLoad fX6_isStore f_X6_isLoad_J18 f_X6_isStore_J18 f_X6_usesLocal_J21 at h
    rcases hc with c | c | c | c | c | c | c <;> simp [c] at h
  · intro hc
    exact us_no ⟨fun c => hc (Or.inl c), fun c => hc (Or.inr (Or.inl c)), fun c => hc (Or.inr (Or.inr (Or.inl c))), fun c => hc (Or.inr (Or.inr (Or.inr (Or.inl c)))), fun c => hc (Or.inr (Or.inr (Or.inr (Or.inr (Or.inl c))))), fun c => hc (Or.inr (Or.inr (Or.inr (Or.inr (Or.inr (Or.inl c)))))), fun c => hc (Or.inr (Or.inr (Or.inr (Or.inr (Or.inr (Or.inr c))))))⟩
theorem ln3_tab : ∀ n : Fin 256, ((if n.val < 202 then stLN.getD n.val 0 else 0 : Int32).toInt = 3 ↔ (n.val = 17 ∨ n.val = 19 ∨ n.val = 20 ∨ n.val = 132 ∨ (153 ≤ n.val ∧ n.val ≤ 167) ∨ n.val = 178 ∨ n.val = 179 ∨ n.val = 184 ∨ n.val = 198 ∨ n.val = 199)) := by decide +kernel
theorem ln3 (h0 : 0 ≤ r.toInt) (h1 : r.toInt < 256) : (fX6_lengthOf V r).toInt = 3 ↔ (r.toInt = 17 ∨ r.toInt = 19 ∨ r.toInt = 20 ∨ r.toInt = 132 ∨ (153 ≤ r.toInt ∧ r.toInt ≤ 167) ∨ r.toInt = 178 ∨ r.toInt = 179 ∨ r.toInt = 184 ∨ r.toInt = 198 ∨ r.toInt = 199) := by
  have q := ln3_tab ⟨r.toInt.toNat, by omega⟩
  have e : fX6_lengthOf V r = if r.toInt.toNat < 202 then stLN.getD r.toInt.toNat 0 else 0 := by
    unfold fX6_lengthOf f_X6_lengthOf_J12
    rw [if_neg (by omega)]
    by_cases c : r.toInt < 202
    · rw [if_pos c, if_pos (by omega)]
    · rw [if_neg c, if_neg (by omega)]
  rw [e]
  refine q.trans ⟨fun h => ?_, fun h => ?_⟩
  · show r.toInt = 17 ∨ _
    have h' : r.toInt.toNat = 17 ∨ r.toInt.toNat = 19 ∨ r.toInt.toNat = 20 ∨ r.toInt.toNat = 132 ∨ (153 ≤ r.toInt.toNat ∧ r.toInt.toNat ≤ 167) ∨ r.toInt.toNat = 178 ∨ r.toInt.toNat = 179 ∨ r.toInt.toNat = 184 ∨ r.toInt.toNat = 198 ∨ r.toInt.toNat = 199 := h
    omega
  · show r.toInt.toNat = 17 ∨ r.toInt.toNat = 19 ∨ r.toInt.toNat = 20 ∨ r.toInt.toNat = 132 ∨ (153 ≤ r.toInt.toNat ∧ r.toInt.toNat ≤ 167) ∨ r.toInt.toNat = 178 ∨ r.toInt.toNat = 179 ∨ r.toInt.toNat = 184 ∨ r.toInt.toNat = 198 ∨ r.toInt.toNat = 199
    omega
/-- decode, by the first byte -/
theorem dc_j (hr : fX2_u1 V o = r) (c : (153 ≤ r.toInt ∧ r.toInt ≤ 167) ∨ r.toInt = 198 ∨ r.toInt = 199) : dcV V o = (r, (o + ((fX2_u2 V (o + (1 : Int32))).toInt16.toInt32)).toInt64) := by
  unfold dcV dcF
  rw [hr, if_neg (by omega), if_neg (by omega), if_neg (by omega), if_neg (by omega), if_neg (by omega), if_neg (by omega), if_neg (fun h => (ij_r.mp h) c)]
theorem dc_s (hr : fX2_u1 V o = r) (c : r.toInt = 170 ∨ r.toInt = 171) : dcV V o = (r, (fX2_numbersOf V o).toInt64) := by
  unfold dcV dcF
  rw [hr, if_neg (by omega), if_neg (by omega), if_neg (by omega), if_neg (by omega), if_neg (by omega), if_neg (by omega), if_pos (ij_r.mpr (by omega)), if_neg (fun h => (isw_r.mp h) c)]
theorem dc_3 (hr : fX2_u1 V o = r) (h0 : 0 ≤ r.toInt) (h1 : r.toInt < 256) (c : r.toInt = 19 ∨ r.toInt = 20 ∨ r.toInt = 178 ∨ r.toInt = 179 ∨ r.toInt = 184) : dcV V o = (r, (fX2_u2 V (o + (1 : Int32))).toInt64) := by
  unfold dcV dcF
  rw [hr, if_neg (by omega), if_neg (by omega), if_neg (by omega), if_neg (by omega), if_neg (by omega), if_neg (by omega), if_pos (ij_r.mpr (by omega)), if_pos (isw_r.mpr (by omega)), if_pos ⟨(ln3 h0 h1).mpr (by omega), by omega⟩]
theorem dc_l (hr : fX2_u1 V o = r) (h0 : 0 ≤ r.toInt) (h1 : r.toInt < 256) (c : ¬ (2 ≤ r.toInt ∧ r.toInt ≤ 10) ∧ ¬ (16 ≤ r.toInt ∧ r.toInt ≤ 20) ∧ ¬ (153 ≤ r.toInt ∧ r.toInt ≤ 167) ∧ ¬ (170 ≤ r.toInt ∧ r.toInt ≤ 171) ∧ ¬ (178 ≤ r.toInt ∧ r.toInt ≤ 179) ∧ r.toInt ≠ 184 ∧ ¬ (198 ≤ r.toInt ∧ r.toInt ≤ 200)) : dcV V o = dlF V o r := by
  unfold dcV dcF
  rw [hr, if_neg (by omega), if_neg (by omega), if_neg (by omega), if_neg (by omega), if_neg (by omega), if_neg (by omega), if_pos (ij_r.mpr (by omega)), if_pos (isw_r.mpr (by omega)), if_neg (fun q => by have q1 := (ln3 h0 h1).mp q.1; have q2 := q.2; omega)]
theorem mk_eq {n m : Int32} (h : n.toInt = m.toInt) : n = m := Int32.toInt_inj.mp h
theorem b8 (h : -128 ≤ x.toInt ∧ x.toInt ≤ 127) : (x &&& (255 : Int32)).toInt8.toInt32 = x := by
  have z : ∀ n : Fin 256, ((Int32.ofInt ((n.val : Int) - 128)) &&& (255 : Int32)).toInt8.toInt32 = Int32.ofInt ((n.val : Int) - 128) := by decide +kernel
  obtain ⟨n, hn⟩ : ∃ n : Fin 256, (n.val : Int) - 128 = x.toInt := ⟨⟨(x.toInt + 128).toNat, by omega⟩, by
    show (((x.toInt + 128).toNat : Nat) : Int) - 128 = _
    omega⟩
  have q := z n
  rw [hn, Int32.ofInt_toInt] at q
  exact q
theorem m4 (h0 : 0 ≤ x.toInt) (h1 : x.toInt < 8) : x - x / (4 : Int32) * (4 : Int32) = x &&& (3 : Int32) ∧ 0 ≤ (x &&& (3 : Int32)).toInt ∧ (x &&& (3 : Int32)).toInt < 4 := by
  have z : ∀ n : Fin 8, (Int32.ofInt (n.val : Int)) - (Int32.ofInt (n.val : Int)) / (4 : Int32) * (4 : Int32) = (Int32.ofInt (n.val : Int)) &&& (3 : Int32) ∧ 0 ≤ ((Int32.ofInt (n.val : Int)) &&& (3 : Int32)).toInt ∧ ((Int32.ofInt (n.val : Int)) &&& (3 : Int32)).toInt < 4 := by decide +kernel
  obtain ⟨n, hn⟩ : ∃ n : Fin 8, (n.val : Int) = x.toInt := ⟨⟨x.toInt.toNat, by omega⟩, by
    show ((x.toInt.toNat : Nat) : Int) = _
    omega⟩
  have q := z n
  rw [hn, Int32.ofInt_toInt] at q
  exact q
theorem k255 (h0 : 0 ≤ k.toInt) (h1 : k.toInt < 256) : (k.toInt64.toInt32 &&& (255 : Int32)) = k := by
  have z : ∀ n : Fin 256, ((Int32.ofInt (n.val : Int)) &&& (255 : Int32)) = Int32.ofInt (n.val : Int) := by decide +kernel
  obtain ⟨n, hn⟩ : ∃ n : Fin 256, (n.val : Int) = k.toInt := ⟨⟨k.toInt.toNat, by omega⟩, by
    show ((k.toInt.toNat : Nat) : Int) = _
    omega⟩
  have q := z n
  rw [hn, Int32.ofInt_toInt] at q
  rw [Int32.toInt32_toInt64]
  exact q
theorem gk255 (h0 : 0 ≤ k.toInt) (h1 : k.toInt < 256) : ((((b.toInt64) <<< ((8 : Int32).toInt64 &&& 63)) ||| (k.toInt64)).toInt32 &&& (255 : Int32)) = k := by
  have q := k255 h0 h1
  rw [Int32.toInt32_toInt64] at q
  apply Int32.toBitVec_inj.mp
  have q' := congrArg Int32.toBitVec q
  have e8 : (((8 : Int32).toInt64 &&& 63).toBitVec.smod 64) = 8#64 := by decide
  have n8 : (8#64).toNat = 8 := by decide
  have e255 : (255 : Int32).toBitVec = 255#32 := by decide
  rw [Int32.toBitVec_and, e255] at q' ⊢
  rw [Int64.toBitVec_toInt32, Int64.toBitVec_or, Int64.toBitVec_shiftLeft, e8, BitVec.shiftLeft_eq', n8, Int32.toBitVec_toInt64, Int32.toBitVec_toInt64]
  rw [← q']
  apply BitVec.eq_of_getLsbD_eq
  intro i hi
  have m255 : ∀ i : Fin 32, (255#32).getLsbD i.val = decide (i.val < 8) := by decide
  have mi := m255 ⟨i, hi⟩
  rw [BitVec.getLsbD_and, BitVec.getLsbD_and, mi, BitVec.getLsbD_setWidth, BitVec.getLsbD_or, BitVec.getLsbD_shiftLeft, BitVec.getLsbD_signExtend, BitVec.getLsbD_signExtend]
  by_cases c : i < 8
  · simp [c, hi]
    omega
  · simp [c]
end IS
