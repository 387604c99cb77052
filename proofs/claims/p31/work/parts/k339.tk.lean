/-! what an instruction takes and gives (behind fn_places) -/
def tkS (S : MS) (s : Nat) : Prop := okH S (s + 1) ∧ qN S (s + 1) ≤ 8 ∧ (∀ i : Nat, i < qN S (s + 1) → (qI S (s + 1) i).toInt = 73 ∨ (qI S (s + 1) i).toInt = 74 ∨ (qI S (s + 1) i).toInt = 65 ∨ (qI S (s + 1) i).toInt = 69 ∨ (qI S (s + 1) i).toInt = 82) ∧ 0 ≤ plS S s ∧ plS S s ≤ 8
def gvS (S : MS) (s : Nat) : Prop := okH S (s + 1) ∧ qN S (s + 1) ≤ 8 ∧ (∀ i : Nat, i < qN S (s + 1) → (qI S (s + 1) i).toInt = 73 ∨ (qI S (s + 1) i).toInt = 74 ∨ (qI S (s + 1) i).toInt = 65 ∨ (qI S (s + 1) i).toInt = 78 ∨ (qI S (s + 1) i).toInt = 82) ∧ 0 ≤ plS S s ∧ plS S s ≤ 8
def txB (i : Nat) : Bool := decide (sLr.getD i 0 ≤ 8) && (List.range (sLr.getD i 0)).all (fun j => let c := ((sBr.getD i []).getD j 0).toInt; c == 73 || c == 74 || c == 65 || c == 69 || c == 82) && decide (0 ≤ plc (fun k => (sBr.getD i []).getD k 0) (sLr.getD i 0)) && decide (plc (fun k => (sBr.getD i []).getD k 0) (sLr.getD i 0) ≤ 8)
def txG (i : Nat) : Bool := decide (sLr.getD i 0 ≤ 8) && (List.range (sLr.getD i 0)).all (fun j => let c := ((sBr.getD i []).getD j 0).toInt; c == 73 || c == 74 || c == 65 || c == 78 || c == 82) && decide (0 ≤ plc (fun k => (sBr.getD i []).getD k 0) (sLr.getD i 0)) && decide (plc (fun k => (sBr.getD i []).getD k 0) (sLr.getD i 0) ≤ 8)
theorem txB_all : (List.range 12).all (fun k => txB (k + 5)) = true := by decide +kernel
theorem txG_all : [8, 11, 12, 14, 16, 17].all txG = true := by decide +kernel
theorem txd1 {i : Nat} (h0 : 5 ≤ i) (h1 : i ≤ 16) : sLr.getD i 0 ≤ 8 ∧ (∀ j : Nat, j < sLr.getD i 0 → ((sBr.getD i []).getD j 0).toInt = 73 ∨ ((sBr.getD i []).getD j 0).toInt = 74 ∨ ((sBr.getD i []).getD j 0).toInt = 65 ∨ ((sBr.getD i []).getD j 0).toInt = 69 ∨ ((sBr.getD i []).getD j 0).toInt = 82) ∧ 0 ≤ plc (fun k => (sBr.getD i []).getD k 0) (sLr.getD i 0) ∧ plc (fun k => (sBr.getD i []).getD k 0) (sLr.getD i 0) ≤ 8 := by
  have k := List.all_eq_true.mp txB_all (i - 5) (List.mem_range.mpr (by omega))
  rw [show i - 5 + 5 = i by omega] at k
  unfold txB at k
  simp only [Bool.and_eq_true, decide_eq_true_eq] at k
  obtain ⟨⟨⟨k1, k2⟩, k3⟩, k4⟩ := k
  refine ⟨k1, fun j hj => ?_, k3, k4⟩
  have z := List.all_eq_true.mp k2 j (List.mem_range.mpr hj)
  simp only [Bool.or_eq_true, beq_iff_eq] at z
  omega
theorem txd2 {i : Nat} (h0 : i = 8 ∨ i = 11 ∨ i = 12 ∨ i = 14 ∨ i = 16 ∨ i = 17) : sLr.getD i 0 ≤ 8 ∧ (∀ j : Nat, j < sLr.getD i 0 → ((sBr.getD i []).getD j 0).toInt = 73 ∨ ((sBr.getD i []).getD j 0).toInt = 74 ∨ ((sBr.getD i []).getD j 0).toInt = 65 ∨ ((sBr.getD i []).getD j 0).toInt = 78 ∨ ((sBr.getD i []).getD j 0).toInt = 82) ∧ 0 ≤ plc (fun k => (sBr.getD i []).getD k 0) (sLr.getD i 0) ∧ plc (fun k => (sBr.getD i []).getD k 0) (sLr.getD i 0) ≤ 8 := by
  have k := List.all_eq_true.mp txG_all i (by rcases h0 with q | q | q | q | q | q <;> subst q <;> decide)
  unfold txG at k
  simp only [Bool.and_eq_true, decide_eq_true_eq] at k
  obtain ⟨⟨⟨k1, k2⟩, k3⟩, k4⟩ := k
  refine ⟨k1, fun j hj => ?_, k3, k4⟩
  have z := List.all_eq_true.mp k2 j (List.mem_range.mpr hj)
  simp only [Bool.or_eq_true, beq_iff_eq] at z
  omega
theorem tx_tk {S : MS} (h : TxI S) {i s : Nat} (h0 : 5 ≤ i) (h1 : i ≤ 16) (e : s = TXB + 2 * i) : tkS S s := by
  obtain ⟨a, b, c⟩ := h i (by rw [show NTX = 19 from rfl]; omega)
  have k := txd1 h0 h1
  have ef : qI S (TXB + 2 * i + 1) = fun k => (sBr.getD i []).getD k 0 := funext c
  subst e
  unfold tkS plS
  rw [b, ef]
  exact ⟨⟨by rw [show TXB = 10000000 from rfl]; omega, by rw [a]; decide⟩, k.1, k.2.1, k.2.2.1, k.2.2.2⟩
theorem tx_gv {S : MS} (h : TxI S) {i s : Nat} (h0 : i = 8 ∨ i = 11 ∨ i = 12 ∨ i = 14 ∨ i = 16 ∨ i = 17) (e : s = TXB + 2 * i) : gvS S s := by
  obtain ⟨a, b, c⟩ := h i (by rw [show NTX = 19 from rfl]; omega)
  have k := txd2 h0
  have ef : qI S (TXB + 2 * i + 1) = fun k => (sBr.getD i []).getD k 0 := funext c
  subst e
  unfold gvS plS
  rw [b, ef]
  exact ⟨⟨by rw [show TXB = 10000000 from rfl]; omega, by rw [a]; decide⟩, k.1, k.2.1, k.2.2.1, k.2.2.2⟩
theorem pl_nn {S : MS} {s : Nat} : 0 ≤ plS S s := by
  have := plc_ge (g := qI S (s + 1)) (qN S (s + 1))
  unfold plS
  omega
theorem lOK.tk {S : MS} {s : Nat} {p : Int} (h : lOK S s p) (hp : p ≤ 8) : tkS S s := ⟨h.1.1, h.1.2, fun i hi => by have := h.2.1 i hi; omega, pl_nn, by have := h.2.2; omega⟩
theorem lOK.gv {S : MS} {s : Nat} {p : Int} (h : lOK S s p) (hp : p ≤ 8) : gvS S s := ⟨h.1.1, h.1.2, fun i hi => by have := h.2.1 i hi; omega, pl_nn, by have := h.2.2; omega⟩
section TKX
variable {S : MS} {x : Int32}
theorem own_fl (h : LkI S) (hx : 0 ≤ x.toInt ∧ x.toInt < (qI S 0 52).toInt) (ho : (f_op S x).toInt = 178 ∨ (f_op S x).toInt = 179) : (qO S (qO S 0 47) 7 = qO S 0 47 + 3 ∧ qR S (qO S 0 47) 7 = some (qO S (qO S 0 47) 7)) ∧ ((0 : Int) ≤ (f_first S x).toInt ∧ (f_first S x).toInt < (qN S (qO S (qO S 0 47) 7) : Int)) ∧ qR S (qO S (qO S 0 47) 7) (f_first S x).toInt.toNat = some (qO S (qO S (qO S 0 47) 7) (f_first S x).toInt.toNat) ∧ lOK S (qO S (qO S (qO S 0 47) 7) (f_first S x).toInt.toNat) 2 := by
  obtain ⟨L, F, M, ts, a, b, c, d, e⟩ := h.rv hx
  obtain ⟨-, L', F', M', nc, ts', cn, -, -, -, -, g, g2, -⟩ := h
  have k := c.2.2.2.2.2.1 ho
  have q7 : qO S (qO S 0 47) 7 = qO S 0 47 + 3 := by
    show (qR S (qO S 0 47) 7).getD 0 = _
    rw [g.1]; rfl
  obtain ⟨s, s1, s2⟩ := d (f_first S x).toInt.toNat (by omega)
  have qs : qO S (qO S (qO S 0 47) 7) (f_first S x).toInt.toNat = s := by
    rw [q7]
    show (qR S (qO S 0 47 + 3) (f_first S x).toInt.toNat).getD 0 = _
    rw [s1]; rfl
  rw [qs, q7]
  exact ⟨⟨rfl, g.1⟩, ⟨k.1, by rw [g2.1]; omega⟩, s1, s2⟩
theorem own_tk (h : LkI S) (hx : 0 ≤ x.toInt ∧ x.toInt < (qI S 0 52).toInt) (ho : (f_op S x).toInt = 184) : ((qO S (qO S 0 47) 10 = qO S 0 47 + 6 ∧ qR S (qO S 0 47) 10 = some (qO S (qO S 0 47) 10)) ∧ ((0 : Int) ≤ (f_first S x).toInt ∧ (f_first S x).toInt < (qN S (qO S (qO S 0 47) 10) : Int)) ∧ qR S (qO S (qO S 0 47) 10) (f_first S x).toInt.toNat = some (qO S (qO S (qO S 0 47) 10) (f_first S x).toInt.toNat) ∧ lOK S (qO S (qO S (qO S 0 47) 10) (f_first S x).toInt.toNat) 8) ∧ (qO S (qO S 0 47) 11 = qO S 0 47 + 7 ∧ qR S (qO S 0 47) 11 = some (qO S (qO S 0 47) 11)) ∧ ((0 : Int) ≤ (f_first S x).toInt ∧ (f_first S x).toInt < (qN S (qO S (qO S 0 47) 11) : Int)) ∧ qR S (qO S (qO S 0 47) 11) (f_first S x).toInt.toNat = some (qO S (qO S (qO S 0 47) 11) (f_first S x).toInt.toNat) ∧ lOK S (qO S (qO S (qO S 0 47) 11) (f_first S x).toInt.toNat) 2 := by
  obtain ⟨L, F, M, ts, a, b, c, d, e⟩ := h.rv hx
  obtain ⟨-, L', F', M', nc, ts', cn, -, -, -, -, g, g2, -⟩ := h
  have k := c.2.2.2.2.2.2 ho
  have q10 : qO S (qO S 0 47) 10 = qO S 0 47 + 6 := by
    show (qR S (qO S 0 47) 10).getD 0 = _
    rw [g.2.1]; rfl
  have q11 : qO S (qO S 0 47) 11 = qO S 0 47 + 7 := by
    show (qR S (qO S 0 47) 11).getD 0 = _
    rw [g.2.2]; rfl
  obtain ⟨⟨s, s1, s2⟩, t, t1, t2⟩ := e (f_first S x).toInt.toNat (by omega)
  have qs : qO S (qO S (qO S 0 47) 10) (f_first S x).toInt.toNat = s := by
    rw [q10]
    show (qR S (qO S 0 47 + 6) (f_first S x).toInt.toNat).getD 0 = _
    rw [s1]; rfl
  have qt : qO S (qO S (qO S 0 47) 11) (f_first S x).toInt.toNat = t := by
    rw [q11]
    show (qR S (qO S 0 47 + 7) (f_first S x).toInt.toNat).getD 0 = _
    rw [t1]; rfl
  rw [qs, qt, q10, q11]
  exact ⟨⟨⟨rfl, g.2.1⟩, ⟨k.1, by rw [g2.2.1]; omega⟩, s1, s2⟩, ⟨rfl, g.2.2⟩, ⟨k.1, by rw [g2.2.2]; omega⟩, t1, t2⟩
theorem LkI.dtk (h : LkI S) (hx : 0 ≤ x.toInt ∧ x.toInt < (qI S 0 52).toInt) : d_takesOf S x := by
  have r47 := h.1.2.1
  have df := (h.dop hx).2.1
  have k179 : (f_op S x).toInt = 179 → ((qR S 0 47 = some (qO S 0 47)) ∧ ((qR S (qO S 0 47) 7 = some (qO S (qO S 0 47) 7)) ∧ (d_first S x ∧ (((0 : Int) ≤ (f_first S x).toInt ∧ (f_first S x).toInt < (qN S (qO S (qO S 0 47) 7) : Int)) ∧ ((qR S (qO S (qO S 0 47) 7) (((f_first S x).toInt).toNat) = some (qO S (qO S (qO S 0 47) 7) (((f_first S x).toInt).toNat))) ∧ True))))) := fun q => by
    have k := own_fl h hx (Or.inr q)
    exact ⟨r47, k.1.2, df, k.2.1, k.2.2.1, trivial⟩
  have k184 : (f_op S x).toInt = 184 → ((qR S 0 47 = some (qO S 0 47)) ∧ ((qR S (qO S 0 47) 10 = some (qO S (qO S 0 47) 10)) ∧ (d_first S x ∧ (((0 : Int) ≤ (f_first S x).toInt ∧ (f_first S x).toInt < (qN S (qO S (qO S 0 47) 10) : Int)) ∧ ((qR S (qO S (qO S 0 47) 10) (((f_first S x).toInt).toNat) = some (qO S (qO S (qO S 0 47) 10) (((f_first S x).toInt).toNat))) ∧ True))))) := fun q => by
    have k := (own_tk h hx q).1
    exact ⟨r47, k.1.2, df, k.2.1, k.2.2.1, trivial⟩
  refine ⟨(h.dop hx).1, ?_⟩
  generalize f_op S x = op at k179 k184 ⊢
  unfold d_takesOf_J18 d_takesOf_J31 d_takesOf_J47 d_takesOf_J75 d_takesOf_J93
  have j111 : d_takesOf_J111 S x op := by
    unfold d_takesOf_J111
    by_cases c46 : op.toInt = 46
    · rw [if_pos c46]; trivial
    rw [if_neg c46]
    by_cases c54 : op.toInt = 54
    · rw [if_pos c54]; trivial
    rw [if_neg c54]
    by_cases c55 : op.toInt = 55
    · rw [if_pos c55]; trivial
    rw [if_neg c55]
    by_cases c58 : op.toInt = 58
    · rw [if_pos c58]; trivial
    rw [if_neg c58]
    by_cases c79 : op.toInt = 79
    · rw [if_pos c79]; trivial
    rw [if_neg c79]
    by_cases c116 : op.toInt = 116
    · rw [if_pos c116]; trivial
    rw [if_neg c116]
    by_cases c117 : op.toInt = 117
    · rw [if_pos c117]; trivial
    rw [if_neg c117]
    by_cases c133 : op.toInt = 133
    · rw [if_pos c133]; trivial
    rw [if_neg c133]
    by_cases c136 : op.toInt = 136
    · rw [if_pos c136]; trivial
    rw [if_neg c136]
    by_cases c145 : op.toInt = 145
    · rw [if_pos c145]; trivial
    rw [if_neg c145]
    by_cases c146 : op.toInt = 146
    · rw [if_pos c146]; trivial
    rw [if_neg c146]
    by_cases c147 : op.toInt = 147
    · rw [if_pos c147]; trivial
    rw [if_neg c147]
    by_cases c148 : op.toInt = 148
    · rw [if_pos c148]; trivial
    rw [if_neg c148]
    by_cases c165 : op.toInt = 165
    · rw [if_pos c165]; trivial
    rw [if_neg c165]
    by_cases c166 : op.toInt = 166
    · rw [if_pos c166]; trivial
    rw [if_neg c166]
    by_cases c170 : op.toInt = 170
    · rw [if_pos c170]; trivial
    rw [if_neg c170]
    by_cases c171 : op.toInt = 171
    · rw [if_pos c171]; trivial
    rw [if_neg c171]
    by_cases c172 : op.toInt = 172
    · rw [if_pos c172]; trivial
    rw [if_neg c172]
    by_cases c173 : op.toInt = 173
    · rw [if_pos c173]; trivial
    rw [if_neg c173]
    by_cases c176 : op.toInt = 176
    · rw [if_pos c176]; trivial
    rw [if_neg c176]
    by_cases c179 : op.toInt = 179
    · rw [if_pos c179]; exact k179 c179
    rw [if_neg c179]
    by_cases c184 : op.toInt = 184
    · rw [if_pos c184]; exact k184 c184
    rw [if_neg c184]
    trivial
  repeat' split
  all_goals first | trivial | exact j111
theorem LkI.tk (h : LkI S) (hx : 0 ≤ x.toInt ∧ x.toInt < (qI S 0 52).toInt) (ht : TxI S) : tkS S (f_takesOf S x) := by
  have t5 : tkS S 10000010 := tx_tk ht (i := 5) (by decide) (by decide) rfl
  have t6 : tkS S 10000012 := tx_tk ht (i := 6) (by decide) (by decide) rfl
  have t7 : tkS S 10000014 := tx_tk ht (i := 7) (by decide) (by decide) rfl
  have t8 : tkS S 10000016 := tx_tk ht (i := 8) (by decide) (by decide) rfl
  have t9 : tkS S 10000018 := tx_tk ht (i := 9) (by decide) (by decide) rfl
  have t10 : tkS S 10000020 := tx_tk ht (i := 10) (by decide) (by decide) rfl
  have t11 : tkS S 10000022 := tx_tk ht (i := 11) (by decide) (by decide) rfl
  have t12 : tkS S 10000024 := tx_tk ht (i := 12) (by decide) (by decide) rfl
  have t13 : tkS S 10000026 := tx_tk ht (i := 13) (by decide) (by decide) rfl
  have t14 : tkS S 10000028 := tx_tk ht (i := 14) (by decide) (by decide) rfl
  have t15 : tkS S 10000030 := tx_tk ht (i := 15) (by decide) (by decide) rfl
  have t16 : tkS S 10000032 := tx_tk ht (i := 16) (by decide) (by decide) rfl
  have k179 : (f_op S x).toInt = 179 → tkS S (qO S (qO S (qO S 0 47) 7) (f_first S x).toInt.toNat) := fun q => (own_fl h hx (Or.inr q)).2.2.2.tk (by decide)
  have k184 : (f_op S x).toInt = 184 → tkS S (qO S (qO S (qO S 0 47) 10) (f_first S x).toInt.toNat) := fun q => (own_tk h hx q).1.2.2.2.tk (by decide)
  unfold f_takesOf
  generalize f_op S x = op at k179 k184 ⊢
  have j31 : tkS S (f_takesOf_J31 S op) := by unfold f_takesOf_J31; split <;> assumption
  have j111 : tkS S (f_takesOf_J111 S x op) := by
    unfold f_takesOf_J111
    by_cases c46 : op.toInt = 46
    · rw [if_pos c46]; assumption
    rw [if_neg c46]
    by_cases c54 : op.toInt = 54
    · rw [if_pos c54]; assumption
    rw [if_neg c54]
    by_cases c55 : op.toInt = 55
    · rw [if_pos c55]; assumption
    rw [if_neg c55]
    by_cases c58 : op.toInt = 58
    · rw [if_pos c58]; assumption
    rw [if_neg c58]
    by_cases c79 : op.toInt = 79
    · rw [if_pos c79]; assumption
    rw [if_neg c79]
    by_cases c116 : op.toInt = 116
    · rw [if_pos c116]; assumption
    rw [if_neg c116]
    by_cases c117 : op.toInt = 117
    · rw [if_pos c117]; assumption
    rw [if_neg c117]
    by_cases c133 : op.toInt = 133
    · rw [if_pos c133]; assumption
    rw [if_neg c133]
    by_cases c136 : op.toInt = 136
    · rw [if_pos c136]; assumption
    rw [if_neg c136]
    by_cases c145 : op.toInt = 145
    · rw [if_pos c145]; assumption
    rw [if_neg c145]
    by_cases c146 : op.toInt = 146
    · rw [if_pos c146]; assumption
    rw [if_neg c146]
    by_cases c147 : op.toInt = 147
    · rw [if_pos c147]; assumption
    rw [if_neg c147]
    by_cases c148 : op.toInt = 148
    · rw [if_pos c148]; assumption
    rw [if_neg c148]
    by_cases c165 : op.toInt = 165
    · rw [if_pos c165]; assumption
    rw [if_neg c165]
    by_cases c166 : op.toInt = 166
    · rw [if_pos c166]; assumption
    rw [if_neg c166]
    by_cases c170 : op.toInt = 170
    · rw [if_pos c170]; assumption
    rw [if_neg c170]
    by_cases c171 : op.toInt = 171
    · rw [if_pos c171]; assumption
    rw [if_neg c171]
    by_cases c172 : op.toInt = 172
    · rw [if_pos c172]; assumption
    rw [if_neg c172]
    by_cases c173 : op.toInt = 173
    · rw [if_pos c173]; assumption
    rw [if_neg c173]
    by_cases c176 : op.toInt = 176
    · rw [if_pos c176]; assumption
    rw [if_neg c176]
    by_cases c179 : op.toInt = 179
    · rw [if_pos c179]; exact k179 c179
    rw [if_neg c179]
    by_cases c184 : op.toInt = 184
    · rw [if_pos c184]; exact k184 c184
    rw [if_neg c184]
    by_cases c188 : op.toInt = 188
    · rw [if_pos c188]; assumption
    rw [if_neg c188]
    by_cases c190 : op.toInt = 190
    · rw [if_pos c190]; assumption
    rw [if_neg c190]
    by_cases c191 : op.toInt = 191
    · rw [if_pos c191]; assumption
    rw [if_neg c191]
    by_cases c198 : op.toInt = 198
    · rw [if_pos c198]; assumption
    rw [if_neg c198]
    by_cases c199 : op.toInt = 199
    · rw [if_pos c199]; assumption
    rw [if_neg c199]
    assumption
  unfold f_takesOf_J18 f_takesOf_J47 f_takesOf_J75 f_takesOf_J93
  repeat' split
  all_goals assumption
theorem LkI.dgv (h : LkI S) (hx : 0 ≤ x.toInt ∧ x.toInt < (qI S 0 52).toInt) : d_givesOf S x := by
  have r47 := h.1.2.1
  have df := (h.dop hx).2.1
  have k178 : (f_op S x).toInt = 178 → ((qR S 0 47 = some (qO S 0 47)) ∧ ((qR S (qO S 0 47) 7 = some (qO S (qO S 0 47) 7)) ∧ (d_first S x ∧ (((0 : Int) ≤ (f_first S x).toInt ∧ (f_first S x).toInt < (qN S (qO S (qO S 0 47) 7) : Int)) ∧ ((qR S (qO S (qO S 0 47) 7) (((f_first S x).toInt).toNat) = some (qO S (qO S (qO S 0 47) 7) (((f_first S x).toInt).toNat))) ∧ True))))) := fun q => by
    have k := own_fl h hx (Or.inl q)
    exact ⟨r47, k.1.2, df, k.2.1, k.2.2.1, trivial⟩
  have k184 : (f_op S x).toInt = 184 → ((qR S 0 47 = some (qO S 0 47)) ∧ ((qR S (qO S 0 47) 11 = some (qO S (qO S 0 47) 11)) ∧ (d_first S x ∧ (((0 : Int) ≤ (f_first S x).toInt ∧ (f_first S x).toInt < (qN S (qO S (qO S 0 47) 11) : Int)) ∧ ((qR S (qO S (qO S 0 47) 11) (((f_first S x).toInt).toNat) = some (qO S (qO S (qO S 0 47) 11) (((f_first S x).toInt).toNat))) ∧ True))))) := fun q => by
    have k := (own_tk h hx q).2
    exact ⟨r47, k.1.2, df, k.2.1, k.2.2.1, trivial⟩
  refine ⟨(h.dop hx).1, ?_⟩
  generalize f_op S x = op at k178 k184 ⊢
  unfold d_givesOf_J18 d_givesOf_J31
  have j47 : d_givesOf_J47 S x op := by
    unfold d_givesOf_J47
    by_cases c1 : op.toInt = 1
    · rw [if_pos c1]; trivial
    rw [if_neg c1]
    by_cases c18 : op.toInt = 18
    · rw [if_pos c18]; trivial
    rw [if_neg c18]
    by_cases c20 : op.toInt = 20
    · rw [if_pos c20]; trivial
    rw [if_neg c20]
    by_cases c21 : op.toInt = 21
    · rw [if_pos c21]; trivial
    rw [if_neg c21]
    by_cases c22 : op.toInt = 22
    · rw [if_pos c22]; trivial
    rw [if_neg c22]
    by_cases c25 : op.toInt = 25
    · rw [if_pos c25]; trivial
    rw [if_neg c25]
    by_cases c46 : op.toInt = 46
    · rw [if_pos c46]; trivial
    rw [if_neg c46]
    by_cases c133 : op.toInt = 133
    · rw [if_pos c133]; trivial
    rw [if_neg c133]
    by_cases c136 : op.toInt = 136
    · rw [if_pos c136]; trivial
    rw [if_neg c136]
    by_cases c145 : op.toInt = 145
    · rw [if_pos c145]; trivial
    rw [if_neg c145]
    by_cases c146 : op.toInt = 146
    · rw [if_pos c146]; trivial
    rw [if_neg c146]
    by_cases c147 : op.toInt = 147
    · rw [if_pos c147]; trivial
    rw [if_neg c147]
    by_cases c148 : op.toInt = 148
    · rw [if_pos c148]; trivial
    rw [if_neg c148]
    by_cases c178 : op.toInt = 178
    · rw [if_pos c178]; exact k178 c178
    rw [if_neg c178]
    by_cases c184 : op.toInt = 184
    · rw [if_pos c184]; exact k184 c184
    rw [if_neg c184]
    trivial
  repeat' split
  all_goals first | trivial | exact j47
theorem LkI.gv (h : LkI S) (hx : 0 ≤ x.toInt ∧ x.toInt < (qI S 0 52).toInt) (ht : TxI S) : gvS S (f_givesOf S x) := by
  have t8 : gvS S 10000016 := tx_gv ht (i := 8) (by decide) rfl
  have t11 : gvS S 10000022 := tx_gv ht (i := 11) (by decide) rfl
  have t12 : gvS S 10000024 := tx_gv ht (i := 12) (by decide) rfl
  have t14 : gvS S 10000028 := tx_gv ht (i := 14) (by decide) rfl
  have t16 : gvS S 10000032 := tx_gv ht (i := 16) (by decide) rfl
  have t17 : gvS S 10000034 := tx_gv ht (i := 17) (by decide) rfl
  have k178 : (f_op S x).toInt = 178 → gvS S (qO S (qO S (qO S 0 47) 7) (f_first S x).toInt.toNat) := fun q => (own_fl h hx (Or.inl q)).2.2.2.gv (by decide)
  have k184 : (f_op S x).toInt = 184 → gvS S (qO S (qO S (qO S 0 47) 11) (f_first S x).toInt.toNat) := fun q => (own_tk h hx q).2.2.2.2.gv (by decide)
  unfold f_givesOf
  generalize f_op S x = op at k178 k184 ⊢
  have j31 : gvS S (f_givesOf_J31 S op) := by unfold f_givesOf_J31; split <;> assumption
  have j47 : gvS S (f_givesOf_J47 S x op) := by
    unfold f_givesOf_J47
    by_cases c1 : op.toInt = 1
    · rw [if_pos c1]; assumption
    rw [if_neg c1]
    by_cases c18 : op.toInt = 18
    · rw [if_pos c18]; assumption
    rw [if_neg c18]
    by_cases c20 : op.toInt = 20
    · rw [if_pos c20]; assumption
    rw [if_neg c20]
    by_cases c21 : op.toInt = 21
    · rw [if_pos c21]; assumption
    rw [if_neg c21]
    by_cases c22 : op.toInt = 22
    · rw [if_pos c22]; assumption
    rw [if_neg c22]
    by_cases c25 : op.toInt = 25
    · rw [if_pos c25]; assumption
    rw [if_neg c25]
    by_cases c46 : op.toInt = 46
    · rw [if_pos c46]; assumption
    rw [if_neg c46]
    by_cases c133 : op.toInt = 133
    · rw [if_pos c133]; assumption
    rw [if_neg c133]
    by_cases c136 : op.toInt = 136
    · rw [if_pos c136]; assumption
    rw [if_neg c136]
    by_cases c145 : op.toInt = 145
    · rw [if_pos c145]; assumption
    rw [if_neg c145]
    by_cases c146 : op.toInt = 146
    · rw [if_pos c146]; assumption
    rw [if_neg c146]
    by_cases c147 : op.toInt = 147
    · rw [if_pos c147]; assumption
    rw [if_neg c147]
    by_cases c148 : op.toInt = 148
    · rw [if_pos c148]; assumption
    rw [if_neg c148]
    by_cases c178 : op.toInt = 178
    · rw [if_pos c178]; exact k178 c178
    rw [if_neg c178]
    by_cases c184 : op.toInt = 184
    · rw [if_pos c184]; exact k184 c184
    rw [if_neg c184]
    by_cases c188 : op.toInt = 188
    · rw [if_pos c188]; assumption
    rw [if_neg c188]
    by_cases c190 : op.toInt = 190
    · rw [if_pos c190]; assumption
    rw [if_neg c190]
    assumption
  unfold f_givesOf_J18
  repeat' split
  all_goals assumption
/-- how many places it takes, gives -/
noncomputable def tkV (S : MS) (x : Int32) : Int := if 0 < (f_moved S (f_op S x)).toInt then (f_moved S (f_op S x)).toInt else plS S (f_takesOf S x)
noncomputable def gvV (S : MS) (x : Int32) : Int := if 0 < (f_moved S (f_op S x)).toInt then (f_left S (f_op S x)).toInt else plS S (f_givesOf S x)
noncomputable def hbV (S : MS) (x : Int32) (h : Int) : Int := if tkV S x ≤ h then h - tkV S x + gvV S x else -1
theorem b_mv {S : MS} {op : Int32} : 0 ≤ (f_moved S op).toInt ∧ (f_moved S op).toInt ≤ 2 ∧ 0 ≤ (f_left S op).toInt ∧ (f_left S op).toInt ≤ 4 ∧ d_moved S op ∧ d_left S op := by
  unfold f_moved f_left d_moved d_left f_moved_J12 f_moved_J40 f_left_J12 d_moved_J12 d_moved_J40 d_left_J12
  simp only [ite_self]
  refine ⟨?_, ?_, ?_, ?_, trivial, trivial⟩
  · repeat' split
    all_goals decide
  · repeat' split
    all_goals decide
  · repeat' split
    all_goals decide
  · repeat' split
    all_goals decide
theorem b_tg (h : LkI S) (hx : 0 ≤ x.toInt ∧ x.toInt < (qI S 0 52).toInt) (ht : TxI S) : (0 ≤ tkV S x ∧ tkV S x ≤ 8) ∧ 0 ≤ gvV S x ∧ gvV S x ≤ 8 := by
  have k := h.tk hx ht
  have g := h.gv hx ht
  obtain ⟨m1, m2, m3, m4, -, -⟩ := b_mv (S := S) (op := f_op S x)
  unfold tkV gvV
  obtain ⟨-, -, -, k1, k2⟩ := k
  obtain ⟨-, -, -, g1, g2⟩ := g
  refine ⟨⟨?_, ?_⟩, ?_, ?_⟩ <;> split <;> omega
theorem fn_hb {y : Int32} (h : LkI S) (hx : 0 ≤ x.toInt ∧ x.toInt < (qI S 0 52).toInt) (ht : TxI S) (hy : 0 ≤ y.toInt ∧ y.toInt ≤ 40) : w_heightBehind S x y (fun r u => u = S ∧ r.toInt = hbV S x y.toInt) := by
  obtain ⟨m1, m2, m3, m4, m5, m6⟩ := b_mv (S := S) (op := f_op S x)
  have k := h.tk hx ht
  have g := h.gv hx ht
  have bt := b_tg h hx ht
  have d := h.dop hx
  have st : ∀ t : Int32, t.toInt = tkV S x → w_heightBehind_J28 (fun r u => u = S ∧ r.toInt = hbV S x y.toInt) S t x y (f_op S x) := fun t et => by
    unfold w_heightBehind_J28
    have e1 : (y - t).toInt = y.toInt - t.toInt := t_sub (by omega)
    refine ⟨fun c => ⟨m5, fun c2 => ⟨h.dgv hx, _, fn_places (by have := g.2.1; omega) (fun i hi => by have := g.2.2.1 i hi; omega), ?_⟩, fun c2 => ⟨m6, rfl, ?_⟩⟩, fun c => ⟨rfl, ?_⟩⟩
    · rintro r u ⟨rfl, er⟩
      have eg : gvV u x = r.toInt := by unfold gvV; rw [if_neg (by omega), er]
      refine ⟨rfl, ?_⟩
      unfold hbV
      rw [if_pos (by omega), t_add (by omega), e1, et, eg]
    · have eg : gvV S x = (f_left S (f_op S x)).toInt := by unfold gvV; rw [if_pos (by omega)]
      unfold hbV
      rw [if_pos (by omega), t_add (by omega), e1, et, eg]
    · unfold hbV
      rw [if_neg (by omega)]
      rfl
  unfold w_heightBehind
  refine ⟨d.1, fun a ea => ?_⟩
  subst ea
  refine ⟨m5, fun c => ⟨h.dtk hx, _, fn_places (by have := k.2.1; omega) (fun i hi => by have := k.2.2.1 i hi; omega), ?_⟩, fun c => ⟨m5, st _ (by unfold tkV; rw [if_pos (by omega)])⟩⟩
  rintro r u ⟨rfl, er⟩
  exact st r (by unfold tkV; rw [if_neg (by omega), er])
end TKX
/-! bits (behind fn_hb) -/
def bt (v : Int32) (k : Nat) : Bool := v.toBitVec.getLsbD k
theorem sm32 : ∀ k : Fin 32, ((Int32.ofNat k.val &&& 31).toBitVec.smod 32).toNat = k.val := by decide
theorem sm_h {h : Int32} (h0 : 0 ≤ h.toInt) (h1 : h.toInt ≤ 31) : ((h &&& 31).toBitVec.smod 32).toNat = h.toInt.toNat := by
  have k := sm32 ⟨h.toInt.toNat, by omega⟩
  rw [← i32n h0] at k
  exact k
theorem bt_test {v h : Int32} (h0 : 0 ≤ h.toInt) (h1 : h.toInt ≤ 31) : (((v >>> (h &&& 31)) &&& (1 : Int32)).toInt = 1 ↔ bt v h.toInt.toNat = true) := by
  have e := sm_h h0 h1
  have e1 : ((v >>> (h &&& 31)) &&& (1 : Int32)).toInt = 1 ↔ (v >>> (h &&& 31)).toBitVec.getLsbD 0 = true := by
    have a : ((v >>> (h &&& 31)) &&& (1 : Int32)).toInt = 1 ↔ ((v >>> (h &&& 31)) &&& (1 : Int32)) = 1 := by
      constructor
      · intro q; exact Int32.toInt_inj.mp q
      · intro q; rw [q]; rfl
    rw [a]
    constructor
    · intro q
      have := congrArg (fun z : Int32 => z.toBitVec.getLsbD 0) q
      simpa using this
    · intro q
      apply Int32.toBitVec_inj.mp
      apply BitVec.eq_of_getLsbD_eq
      intro i hi
      rw [Int32.toBitVec_and, BitVec.getLsbD_and]
      by_cases z : i = 0
      · subst z
        rw [q]
        decide
      · rw [show (1 : Int32).toBitVec = 1#32 from rfl, BitVec.getLsbD_one]
        simp [z]
  rw [e1, Int32.toBitVec_shiftRight]
  unfold bt
  rw [BitVec.sshiftRight_eq', BitVec.getLsbD_sshiftRight, e, if_pos (by omega)]
  simp only [Nat.add_zero, Bool.and_eq_true, Bool.not_eq_true', decide_eq_false_iff_not]
  constructor
  · intro q; exact q.2
  · intro q; exact ⟨by omega, q⟩
theorem bt_or {v h : Int32} (h0 : 0 ≤ h.toInt) (h1 : h.toInt ≤ 31) {k : Nat} (hk : k < 32) : bt (v ||| ((1 : Int32) <<< (h &&& 31))) k = (bt v k || decide (k = h.toInt.toNat)) := by
  have e := sm_h h0 h1
  unfold bt
  rw [Int32.toBitVec_or, BitVec.getLsbD_or, Int32.toBitVec_shiftLeft, BitVec.shiftLeft_eq', BitVec.getLsbD_shiftLeft, e]
  congr 1
  rw [show (1 : Int32).toBitVec = 1#32 from rfl, BitVec.getLsbD_one]
  by_cases z : k = h.toInt.toNat
  · rw [← z]; simp [hk]
  · by_cases y : k < h.toInt.toNat
    · simp only [z, y, decide_true, decide_false, Bool.not_true, Bool.and_false, Bool.false_and]
    · have : ¬ (k - h.toInt.toNat = 0) := by omega
      simp only [z, this, decide_false, Bool.and_false]
def cnt0 (v : Int32) : Nat → Nat
  | 0 => 0
  | n + 1 => cnt0 v n + if bt v n then 0 else 1
theorem cnt0_le {v w : Int32} (h : ∀ k : Nat, bt v k = true → bt w k = true) : ∀ n : Nat, cnt0 w n ≤ cnt0 v n := by
  intro n
  induction n with
  | zero => exact Nat.le_refl _
  | succ n ih =>
    unfold cnt0
    have := h n
    by_cases a : bt v n = true
    · rw [if_pos a, if_pos (this a)]; omega
    · rw [if_neg a]; split <;> omega
theorem cnt0_lt {v w : Int32} (h : ∀ k : Nat, bt v k = true → bt w k = true) {j : Nat} (h1 : bt w j = true) (h2 : ¬ bt v j = true) : ∀ n : Nat, j < n → cnt0 w n < cnt0 v n := by
  intro n
  induction n with
  | zero => intro q; exact absurd q (Nat.not_lt_zero _)
  | succ n ih =>
    intro q
    unfold cnt0
    by_cases z : j = n
    · subst z
      rw [if_pos h1, if_neg h2]
      have := cnt0_le h j
      omega
    · have := ih (by omega)
      have hn := h n
      by_cases a : bt v n = true
      · rw [if_pos a, if_pos (hn a)]; omega
      · rw [if_neg a]; split <;> omega
theorem bt_ext {v w : Int32} (h : ∀ k : Nat, k < 32 → bt v k = bt w k) : v = w := by
  apply Int32.toBitVec_inj.mp
  apply BitVec.eq_of_getLsbD_eq
  intro i hi
  exact h i hi
theorem bt_hi {v : Int32} {k : Nat} (h : 32 ≤ k) : bt v k = false := by
  unfold bt
  exact BitVec.getLsbD_of_ge _ _ h
def sumN (g : Nat → Nat) : Nat → Nat
  | 0 => 0
  | n + 1 => sumN g n + g n
theorem sumN_eq {g g' : Nat → Nat} : ∀ n : Nat, (∀ j : Nat, j < n → g' j = g j) → sumN g' n = sumN g n := by
  intro n
  induction n with
  | zero => intro _; rfl
  | succ n ih => intro h; unfold sumN; rw [ih (fun j hj => h j (by omega)), h n (by omega)]
theorem sumN_upd {g g' : Nat → Nat} {i : Nat} (h : ∀ j : Nat, j ≠ i → g' j = g j) : ∀ n : Nat, i < n → sumN g' n + g i = sumN g n + g' i := by
  intro n
  induction n with
  | zero => intro q; exact absurd q (Nat.not_lt_zero _)
  | succ n ih =>
    intro q
    unfold sumN
    by_cases z : i = n
    · subst z
      rw [sumN_eq (g := g) (g' := g') i (fun j hj => h j (by omega))]
      omega
    · have := ih (by omega)
      rw [h n (by omega)]
      omega
/-! heights (behind bt_or) -/
theorem smL.op {S u : MS} (h : smL S u) (k : LkI S) (x : Int32) : f_op u x = f_op S x ∧ f_first u x = f_first S x ∧ f_second u x = f_second S x := by
  unfold f_op f_first f_second
  rw [h.qo (j := 48) (by decide) (by decide), (h.2 51 (by decide) (by decide)).1, (h.1.1 _ k.1.1.2.1).1]
  exact ⟨rfl, rfl, rfl⟩
theorem smL.cw {S u : MS} (h : smL S u) (k : LkI S) (c w : Int32) : f_catchWord u c w = f_catchWord S c w := by
  unfold f_catchWord
  rw [h.qo (j := 50) (by decide) (by decide), (h.2 53 (by decide) (by decide)).1, (h.1.1 _ k.1.1.2.2.2).1]
theorem smL.ic {S u : MS} (h : smL S u) (k : LkI S) (x c : Int32) : f_isCaught u x c = f_isCaught S x c := by
  unfold f_isCaught f_isCaught_J24
  rw [h.cw k, h.cw k]
theorem smL.wy {S u : MS} (h : smL S u) (k : LkI S) (x c : Int32) : f_ways u x = f_ways S x ∧ f_way u x c = f_way S x c := by
  unfold f_ways f_way
  rw [(h.op k x).1, (h.op k x).2.1, (h.op k x).2.2, h.qo (j := 49) (by decide) (by decide), (h.1.1 _ k.1.1.2.2.1).1]
  exact ⟨rfl, rfl⟩
theorem smL.own {S u : MS} (h : smL S u) (k : LkI S) : (∀ j : Nat, qO u (qO u (qO u 0 47) 7) j = qO S (qO S (qO S 0 47) 7) j) ∧ (∀ j : Nat, qO u (qO u (qO u 0 47) 10) j = qO S (qO S (qO S 0 47) 10) j) ∧ ∀ j : Nat, qO u (qO u (qO u 0 47) 11) j = qO S (qO S (qO S 0 47) 11) j := by
  obtain ⟨⟨⟨n1, -⟩, -⟩, L, F, M, nc, ts, cn, -, -, -, -, g, -⟩ := k
  have e : qO u 0 47 = qO S 0 47 := h.qo (by decide) (by decide)
  have z : ∀ i : Nat, i ≠ 22 → qO u (qO S 0 47) i = qO S (qO S 0 47) i := fun i hi => by
    show (qR u (qO S 0 47) i).getD 0 = (qR S (qO S 0 47) i).getD 0
    rw [(h.1.2 _ n1.1.1 n1.1.2).2.1 i hi]
  have q7 : qO S (qO S 0 47) 7 = qO S 0 47 + 3 := by show (qR S (qO S 0 47) 7).getD 0 = _; rw [g.1]; rfl
  have q10 : qO S (qO S 0 47) 10 = qO S 0 47 + 6 := by show (qR S (qO S 0 47) 10).getD 0 = _; rw [g.2.1]; rfl
  have q11 : qO S (qO S 0 47) 11 = qO S 0 47 + 7 := by show (qR S (qO S 0 47) 11).getD 0 = _; rw [g.2.2]; rfl
  rw [e, z 7 (by decide), z 10 (by decide), z 11 (by decide), q7, q10, q11]
  refine ⟨fun j => ?_, fun j => ?_, fun j => ?_⟩
  · show (qR u (qO S 0 47 + 3) j).getD 0 = (qR S (qO S 0 47 + 3) j).getD 0
    rw [(h.1.1 (qO S 0 47 + 3) n1.2.1).2.2.1]
  · show (qR u (qO S 0 47 + 6) j).getD 0 = (qR S (qO S 0 47 + 6) j).getD 0
    rw [(h.1.1 (qO S 0 47 + 6) n1.2.2.1).2.2.1]
  · show (qR u (qO S 0 47 + 7) j).getD 0 = (qR S (qO S 0 47 + 7) j).getD 0
    rw [(h.1.1 (qO S 0 47 + 7) n1.2.2.2).2.2.1]
theorem smL.tg {S u : MS} (h : smL S u) (k : LkI S) (x : Int32) : f_takesOf u x = f_takesOf S x ∧ f_givesOf u x = f_givesOf S x := by
  obtain ⟨o1, o2, o3⟩ := h.own k
  have e1 := (h.op k x).1
  have e2 := (h.op k x).2.1
  constructor
  · unfold f_takesOf
    rw [e1]
    generalize f_op S x = op
    have j : f_takesOf_J111 u x op = f_takesOf_J111 S x op := by unfold f_takesOf_J111; rw [e2, o1, o2]
    unfold f_takesOf_J18 f_takesOf_J31 f_takesOf_J47 f_takesOf_J75 f_takesOf_J93
    rw [j]
  · unfold f_givesOf
    rw [e1]
    generalize f_op S x = op
    have j : f_givesOf_J47 u x op = f_givesOf_J47 S x op := by unfold f_givesOf_J47; rw [e2, o1, o3]
    unfold f_givesOf_J18 f_givesOf_J31
    rw [j]
theorem smL.tx {S u : MS} (h : smL S u) (k : TxI S) : TxI u := fun i hi => by
  obtain ⟨a, b, c⟩ := k i hi
  have z := h.1.1 (TXB + 2 * i + 1) ⟨by rw [show TXB = 10000000 from rfl]; omega, by rw [a]; decide⟩
  exact ⟨z.2.2.2.1.trans a, z.2.2.2.2.trans b, fun j => by rw [z.1]; exact c j⟩
theorem smL.tv {S u : MS} (h : smL S u) (k : LkI S) (t : TxI S) {x : Int32} (hx : 0 ≤ x.toInt ∧ x.toInt < (qI S 0 52).toInt) : tkV u x = tkV S x ∧ gvV u x = gvV S x ∧ ∀ y : Int, hbV u x y = hbV S x y := by
  have e1 := (h.op k x).1
  have a := (h.tg k x).1
  have b := (h.tg k x).2
  have m1 : tkV u x = tkV S x := by
    unfold tkV
    rw [e1, a, h.pl (k.tk hx t).1]
    rfl
  have m2 : gvV u x = gvV S x := by
    unfold gvV
    rw [e1, b, h.pl (k.gv hx t).1]
    rfl
  refine ⟨m1, m2, fun y => ?_⟩
  unfold hbV
  rw [m1, m2]
/-- a height is right -/
def hcV (S : MS) (x : Int32) : Prop := ∃ c : Int32, (0 ≤ c.toInt ∧ c.toInt < (qI S 0 54).toInt) ∧ (f_isCaught S x c).toInt ≠ 0
def rgV (S : MS) (x : Int32) (y : Int) : Prop := 0 ≤ hbV S x y ∧ hbV S x y ≤ (qI S 0 56).toInt ∧ (0 < (qI S 0 56).toInt ∨ ¬ hcV S x) ∧ ((f_goesOn S (f_op S x)).toInt = 0 ∨ x.toInt ≠ (qI S 0 52).toInt - 1)
theorem smL.hc {S u : MS} (h : smL S u) (k : LkI S) (x : Int32) : hcV u x ↔ hcV S x := by
  unfold hcV
  rw [(h.2 54 (by decide) (by decide)).1]
  constructor
  · rintro ⟨c, a, b⟩; exact ⟨c, a, by rw [← h.ic k]; exact b⟩
  · rintro ⟨c, a, b⟩; exact ⟨c, a, by rw [h.ic k]; exact b⟩
theorem smL.rg {S u : MS} (h : smL S u) (k : LkI S) (t : TxI S) (e : qI u 0 56 = qI S 0 56) {x : Int32} (hx : 0 ≤ x.toInt ∧ x.toInt < (qI S 0 52).toInt) {y : Int} : rgV u x y ↔ rgV S x y := by
  unfold rgV
  rw [(h.tv k t hx).2.2, e, h.hc k, (h.op k x).1, (h.2 52 (by decide) (by decide)).1]
  exact Iff.rfl
theorem d_gO {S : MS} {op : Int32} : d_goesOn S op := by
  unfold d_goesOn d_goesOn_J60
  simp only [ite_self]
theorem fn_hasCatch {S : MS} {x : Int32} (h : LkI S) : w_hasCatch S x (fun r u => u = S ∧ (r.toInt ≠ 0 ↔ hcV S x)) := by
  have kc := h.cnt
  have L : ∀ (m : Nat) (c : Int32), (0 ≤ c.toInt ∧ c.toInt ≤ (qI S 0 54).toInt) → (∀ c' : Int32, 0 ≤ c'.toInt → c'.toInt < c.toInt → (f_isCaught S x c').toInt = 0) → (16 - c.toInt).toNat < m → w_hasCatch_L2 (fun r u => u = S ∧ (r.toInt ≠ 0 ↔ hcV S x)) m S x c := by
    intro m
    induction m with
    | zero => intro c _ _ h9; exact absurd h9 (Nat.not_lt_zero _)
    | succ m ih =>
      intro c hc hb hm
      have ec : (c + Int32.ofInt 1).toInt = c.toInt + 1 := by rw [t_add (by rw [lo_1]; omega), lo_1]
      unfold w_hasCatch_L2
      refine ⟨fun q => ⟨rfl, ⟨fun z => absurd rfl z, fun ⟨c', a, b⟩ => absurd (hb c' a.1 (by omega)) b⟩⟩, fun q => ⟨h.dic ⟨hc.1, by omega⟩, fun z a ea => ?_, fun z => ⟨rfl, ⟨fun _ => ⟨c, ⟨hc.1, by omega⟩, z⟩, fun _ => by decide⟩⟩⟩⟩
      subst ea
      refine ih _ ⟨by omega, by omega⟩ (fun c' a b => ?_) (by omega)
      by_cases w : c'.toInt < c.toInt
      · exact hb c' a w
      · have : c' = c := Int32.toInt_inj.mp (by omega)
        rw [this]; exact z
  unfold w_hasCatch
  exact ⟨_, L _ 0 ⟨by decide, by rw [li_0]; omega⟩ (fun c' a b => by rw [li_0] at b; omega) (Nat.lt_succ_self _)⟩
theorem fn_rg {S : MS} {x y : Int32} (h : LkI S) (hx : 0 ≤ x.toInt ∧ x.toInt < (qI S 0 52).toInt) (ht : TxI S) (hy : 0 ≤ y.toInt ∧ y.toInt ≤ 40) : w_isRightHeight S x y (fun r u => u = S ∧ (r.toInt ≠ 0 ↔ rgV S x y.toInt)) := by
  have kc := h.cnt
  have e1 : (qI S 0 52 - (1 : Int32)).toInt = (qI S 0 52).toInt - 1 := by rw [t_sub (by rw [li_1]; omega), li_1]
  unfold w_isRightHeight
  refine ⟨_, fn_hb h hx ht hy, ?_⟩
  rintro r u ⟨rfl, er⟩
  have no : ¬ rgV u x y.toInt → w_isRightHeight_J59 (fun r S => S = u ∧ (r.toInt ≠ 0 ↔ rgV u x y.toInt)) u := fun q => ⟨rfl, ⟨fun z => absurd rfl z, fun z => absurd z q⟩⟩
  have st : 0 ≤ r.toInt → r.toInt ≤ (qI u 0 56).toInt → (0 < (qI u 0 56).toInt ∨ ¬ hcV u x) → w_isRightHeight_J34 (fun r S => S = u ∧ (r.toInt ≠ 0 ↔ rgV u x y.toInt)) u x := fun a b c => by
    unfold w_isRightHeight_J34 w_isRightHeight_J55
    rw [e1]
    refine ⟨(h.dop hx).1, d_gO, fun q => ⟨rfl, ⟨fun _ => ⟨by omega, by omega, c, Or.inl q⟩, fun _ => by decide⟩⟩, fun q => ⟨fun q2 => no (fun z => ?_), fun q2 => ⟨rfl, ⟨fun _ => ⟨by omega, by omega, c, Or.inr q2⟩, fun _ => by decide⟩⟩⟩⟩
    rcases z.2.2.2 with w | w
    · exact q w
    · exact w q2
  refine ⟨fun c => no (fun z => by have := z.1; omega), fun c => ⟨fun c2 => no (fun z => by have := z.2.1; omega), fun c2 => ⟨fun c3 => st (by omega) (by omega) (Or.inl c3), fun c3 => ⟨_, fn_hasCatch h, ?_⟩⟩⟩⟩
  rintro r2 u2 ⟨rfl, e2⟩
  refine ⟨fun q => st (by omega) (by omega) (Or.inr (fun z => e2.mpr z q)), fun q => no (fun z => ?_)⟩
  rcases z.2.2.1 with w | w
  · exact c3 w
  · exact w (e2.mp q)
/-- how much can still come -/
def Mh (S : MS) : Nat := sumN (fun i => cnt0 (qI S 22 i) 32) (qI S 0 52).toInt.toNat
def HtS (S u : MS) : Prop := frm [22] [57] S u ∧ (∀ i k : Nat, bt (qI S 22 i) k = true → bt (qI u 22 i) k = true) ∧ ((qI u 0 57).toInt = 0 → (qI S 0 57).toInt = 0 ∧ qI u 22 = qI S 22) ∧ Mh u ≤ Mh S ∧ ((qI S 0 57).toInt = 0 → (qI u 0 57).toInt ≠ 0 → Mh u < Mh S)
theorem HtS.rf {S : MS} : HtS S S := ⟨frm.rf, fun _ _ h => h, fun h => ⟨h, rfl⟩, Nat.le_refl _, fun a b => absurd a b⟩
theorem HtS.tr {S u v : MS} (h : HtS S u) (k : HtS u v) : HtS S v := by
  obtain ⟨a1, a2, a3, a4, a5⟩ := h
  obtain ⟨b1, b2, b3, b4, b5⟩ := k
  refine ⟨a1.tr b1, fun i k q => b2 i k (a2 i k q), fun q => ⟨(a3 (b3 q).1).1, (b3 q).2.trans (a3 (b3 q).1).2⟩, by omega, fun p q => ?_⟩
  by_cases z : (qI u 0 57).toInt = 0
  · have := b5 z q; omega
  · have := a5 p z; omega
theorem HtS.sL {S u : MS} (h : HtS S u) : smL S u := smL.fm h.1 (by decide) (by decide)
theorem sp_come {S : MS} {x y : Int32} (hc : (qI S 0 52).toInt ≤ 1200) (hx : 0 ≤ x.toInt ∧ x.toInt < (qI S 0 52).toInt) (hy : 0 ≤ y.toInt ∧ y.toInt ≤ 31) : w_come S x y (fun u => HtS S u ∧ bt (qI u 22 x.toInt.toNat) y.toInt.toNat = true ∧ ∀ i k : Nat, bt (qI u 22 i) k = true → bt (qI S 22 i) k = true ∨ k = y.toInt.toNat) := by
  have grow : ∀ k : Nat, bt (qI S 22 x.toInt.toNat) k = true → bt (qI S 22 x.toInt.toNat ||| ((1 : Int32) <<< (y &&& 31))) k = true := fun k q => by
    by_cases z : k < 32
    · rw [bt_or hy.1 hy.2 z, q]; rfl
    · rw [bt_hi (by omega)] at q; exact absurd q (by decide)
  -- the end, with t the new mark
  have st : ∀ t : Int32, (t.toInt = 0 → (qI S 0 57).toInt = 0 ∧ (qI S 22 x.toInt.toNat ||| ((1 : Int32) <<< (y &&& 31))) = qI S 22 x.toInt.toNat) → ((qI S 0 57).toInt = 0 → t.toInt ≠ 0 → (qI S 22 x.toInt.toNat ||| ((1 : Int32) <<< (y &&& 31))) ≠ qI S 22 x.toInt.toNat) → w_come_J34 (fun u => HtS S u ∧ bt (qI u 22 x.toInt.toNat) y.toInt.toNat = true ∧ ∀ i k : Nat, bt (qI u 22 i) k = true → bt (qI S 22 i) k = true ∨ k = y.toInt.toNat) S t x (qI S 22 x.toInt.toNat ||| ((1 : Int32) <<< (y &&& 31))) := fun t ht ht2 => by
    unfold w_come_J34
    refine fun A eA => ⟨⟨hx.1, by omega⟩, fun B eB => ?_⟩
    have fB : frm [22] [57] S B := by
      have f1 : frm [22] [57] S A := by rw [eA]; exact frm.pI0 (by decide)
      have f2 : frm [22] [57] A B := by rw [eB]; exact frm.pI (by decide)
      exact f1.tr f2
    have b57 : qI B 0 57 = t := by rw [eB, rdH (by decide), eA, qI_wI, if_pos ⟨rfl, rfl⟩]
    have b52 : qI B 0 52 = qI S 0 52 := (fB.2.2.2.2.2 52 (by decide)).1
    have b22 : ∀ j : Nat, qI B 22 j = if j = x.toInt.toNat then (qI S 22 x.toInt.toNat ||| ((1 : Int32) <<< (y &&& 31))) else qI S 22 j := fun j => by
      rw [eB, qI_wI]
      by_cases z : j = x.toInt.toNat
      · rw [if_pos ⟨rfl, z⟩, if_pos z]
      · rw [if_neg (fun q => z q.2), if_neg z, eA, rdH (by decide)]
    have hup := sumN_upd (g := fun i => cnt0 (qI S 22 i) 32) (g' := fun i => cnt0 (qI B 22 i) 32) (i := x.toInt.toNat) (fun j hj => by show cnt0 (qI B 22 j) 32 = _; rw [b22, if_neg hj]) (qI S 0 52).toInt.toNat (by omega)
    have ex : qI B 22 x.toInt.toNat = (qI S 22 x.toInt.toNat ||| ((1 : Int32) <<< (y &&& 31))) := by rw [b22, if_pos rfl]
    have hle : cnt0 (qI B 22 x.toInt.toNat) 32 ≤ cnt0 (qI S 22 x.toInt.toNat) 32 := by rw [ex]; exact cnt0_le grow 32
    refine ⟨⟨fB, fun i k q => ?_, fun q => ?_, ?_, fun p q => ?_⟩, ?_, fun i k q => ?_⟩
    · rw [b22]
      by_cases z : i = x.toInt.toNat
      · rw [if_pos z]; rw [z] at q; exact grow k q
      · rw [if_neg z]; exact q
    · rw [b57] at q
      refine ⟨(ht q).1, funext (fun j => ?_)⟩
      rw [b22]
      by_cases z : j = x.toInt.toNat
      · rw [if_pos z, (ht q).2, z]
      · rw [if_neg z]
    · unfold Mh
      rw [b52]
      omega
    · rw [b57] at q
      have ne := ht2 p q
      have lt : cnt0 (qI B 22 x.toInt.toNat) 32 < cnt0 (qI S 22 x.toInt.toNat) 32 := by
        rw [ex]
        by_cases w : ∃ k : Nat, k < 32 ∧ bt (qI S 22 x.toInt.toNat ||| ((1 : Int32) <<< (y &&& 31))) k = true ∧ ¬ bt (qI S 22 x.toInt.toNat) k = true
        · obtain ⟨k, k0, k1, k2⟩ := w
          exact cnt0_lt grow k1 k2 32 k0
        · exact absurd (bt_ext (fun k hk => by
            by_cases a : bt (qI S 22 x.toInt.toNat) k = true
            · rw [a, grow k a]
            · by_cases b : bt (qI S 22 x.toInt.toNat ||| ((1 : Int32) <<< (y &&& 31))) k = true
              · exact absurd ⟨k, hk, b, a⟩ w
              · rw [Bool.eq_false_iff.mpr a, Bool.eq_false_iff.mpr b])) ne
      unfold Mh
      rw [b52]
      omega
    · rw [ex, bt_or hy.1 hy.2 (by omega)]
      simp
    · rw [b22] at q
      by_cases z : i = x.toInt.toNat
      · rw [if_pos z] at q
        by_cases w : k < 32
        · rw [bt_or hy.1 hy.2 w] at q
          rw [Bool.or_eq_true, decide_eq_true_eq] at q
          rw [z]
          exact q
        · rw [bt_hi (by omega)] at q; exact absurd q (by decide)
      · rw [if_neg z] at q; exact Or.inl q
  unfold w_come
  refine ⟨⟨hx.1, by omega⟩, fun a ea => ?_⟩
  subst ea
  refine ⟨fun c => ⟨⟨hx.1, by omega⟩, fun q => st 0 (fun _ => ⟨c, Int32.toInt_inj.mp q⟩) (fun _ z => absurd rfl z), fun q => ?_⟩, fun c => ?_⟩
  · unfold w_come_J29
    exact st 1 (fun z => absurd z (by decide)) (fun _ _ z => q (by rw [z]))
  · unfold w_come_J29
    exact st 1 (fun z => absurd z (by decide)) (fun z _ => absurd z c)
/-! spread, findHeights (behind sp_come) -/
theorem LkI.ways {S : MS} {x : Int32} (h : LkI S) (hx : 0 ≤ x.toInt ∧ x.toInt < (qI S 0 52).toInt) : d_ways S x ∧ (0 ≤ (f_ways S x).toInt ∧ (f_ways S x).toInt ≤ 202) ∧ ∀ k : Int32, 0 ≤ k.toInt → k.toInt < (f_ways S x).toInt → d_way S x k ∧ 0 ≤ (f_way S x k).toInt ∧ (f_way S x k).toInt < (qI S 0 52).toInt := by
  obtain ⟨d1, d2, d3⟩ := h.dop hx
  obtain ⟨L, F, M, ts, a, b, c, -, -⟩ := h.rv hx
  have r49 := h.1.2.2.2.1
  obtain ⟨v1, v2, v3, -⟩ := c
  have dj : d_isJump S (f_op S x) := by
    unfold d_isJump d_isJump_J14 d_isJump_J28
    simp only [ite_self]
  have dw : d_isSwitch S (f_op S x) := by
    unfold d_isSwitch d_isSwitch_J14
    simp only [ite_self]
  have fj : (f_isJump S (f_op S x)).toInt ≠ 0 → (153 ≤ (f_op S x).toInt ∧ (f_op S x).toInt ≤ 167) ∨ (f_op S x).toInt = 198 ∨ (f_op S x).toInt = 199 := fun q => by
    unfold f_isJump f_isJump_J14 f_isJump_J28 at q
    by_cases c1 : (f_op S x).toInt < 153
    · rw [if_pos c1] at q
      by_cases c2 : (f_op S x).toInt = 198
      · exact Or.inr (Or.inl c2)
      · rw [if_neg c2] at q
        by_cases c3 : (f_op S x).toInt = 199
        · exact Or.inr (Or.inr c3)
        · rw [if_neg c3] at q; exact absurd rfl q
    · rw [if_neg c1] at q
      by_cases c2 : (f_op S x).toInt ≤ 167
      · exact Or.inl ⟨by omega, c2⟩
      · rw [if_neg c2] at q
        by_cases c3 : (f_op S x).toInt = 198
        · exact Or.inr (Or.inl c3)
        · rw [if_neg c3] at q
          by_cases c4 : (f_op S x).toInt = 199
          · exact Or.inr (Or.inr c4)
          · rw [if_neg c4] at q; exact absurd rfl q
  have fw : (f_isSwitch S (f_op S x)).toInt ≠ 0 → (f_op S x).toInt = 170 ∨ (f_op S x).toInt = 171 := fun q => by
    unfold f_isSwitch f_isSwitch_J14 at q
    by_cases c1 : (f_op S x).toInt = 170
    · exact Or.inl c1
    · rw [if_neg c1] at q
      by_cases c2 : (f_op S x).toInt = 171
      · exact Or.inr c2
      · rw [if_neg c2] at q; exact absurd rfl q
  by_cases q1 : (f_isJump S (f_op S x)).toInt = 0
  · by_cases q2 : (f_isSwitch S (f_op S x)).toInt = 0
    · have ew : f_ways S x = 0 := by unfold f_ways; rw [if_pos q1, if_pos q2]
      refine ⟨?_, by rw [ew]; decide, fun k k0 k1 => by rw [ew, li_0] at k1; omega⟩
      unfold d_ways
      rw [if_pos q1, if_pos q2]
      exact ⟨d1, dj, d1, dw, trivial⟩
    · have w := v3 (fw q2)
      have ew : (f_ways S x).toInt = (f_second S x).toInt + 1 := by unfold f_ways; rw [if_pos q1, if_neg q2, t_add (by rw [li_1]; omega), li_1]
      refine ⟨?_, by omega, fun k k0 k1 => ?_⟩
      · unfold d_ways
        rw [if_pos q1, if_neg q2]
        exact ⟨d1, dj, d1, dw, d3, trivial⟩
      · have e2 : ((2 : Int32) * k).toInt = 2 * k.toInt := by rw [t_mul (by rw [li_2]; omega), li_2]
        have e3 : (f_first S x + (2 : Int32) * k).toInt = (f_first S x).toInt + 2 * k.toInt := by rw [t_add (by omega), e2]
        unfold d_way f_way
        rw [if_pos q1, if_pos q1, e3]
        refine ⟨⟨d1, dj, r49, d2, ⟨by omega, by rw [b.1]; omega⟩, trivial⟩, ?_⟩
        have z := w.2.2.2.2.1 k.toInt.toNat (by omega)
        rw [show ((f_first S x).toInt + 2 * k.toInt).toNat = (f_first S x).toInt.toNat + 2 * k.toInt.toNat by omega]
        exact z
  · have w := v2 (fj q1)
    have ew : f_ways S x = 1 := by unfold f_ways; rw [if_neg q1]
    refine ⟨?_, by rw [ew]; decide, fun k k0 k1 => ?_⟩
    · unfold d_ways
      rw [if_neg q1]
      exact ⟨d1, dj, trivial⟩
    · unfold d_way f_way
      rw [if_neg q1, if_neg q1]
      exact ⟨⟨d1, dj, d2, trivial⟩, w⟩
/-- what follows has the height -/
def ClH (S u : MS) (x : Int32) (y : Int) : Prop := ((f_goesOn S (f_op S x)).toInt ≠ 0 → bt (qI u 22 (x.toInt.toNat + 1)) (hbV S x y).toNat = true) ∧ (∀ k : Int32, 0 ≤ k.toInt → k.toInt < (f_ways S x).toInt → bt (qI u 22 (f_way S x k).toInt.toNat) (hbV S x y).toNat = true) ∧ ∀ c : Int32, 0 ≤ c.toInt → c.toInt < (qI S 0 54).toInt → (f_isCaught S x c).toInt ≠ 0 → bt (qI u 22 (f_catchWord S c 2).toInt.toNat) 1 = true
theorem ClH.up {S u v : MS} {x : Int32} {y : Int} (h : ClH S u x y) (k : ∀ i k : Nat, bt (qI u 22 i) k = true → bt (qI v 22 i) k = true) : ClH S v x y := ⟨fun q => k _ _ (h.1 q), fun c a b => k _ _ (h.2.1 c a b), fun c a b d => k _ _ (h.2.2 c a b d)⟩
theorem sp_spread {S : MS} {x y : Int32} (h : LkI S) (ht : TxI S) (hx : 0 ≤ x.toInt ∧ x.toInt < (qI S 0 52).toInt) (hy : 0 ≤ y.toInt ∧ y.toInt ≤ 31) (hm : (qI S 0 56).toInt ≤ 28) (hr : rgV S x y.toInt) : w_spread S x y (fun u => HtS S u ∧ ClH S u x y.toInt ∧ ∀ i k : Nat, bt (qI u 22 i) k = true → bt (qI S 22 i) k = true ∨ (k : Int) ≤ (qI S 0 56).toInt) := by
  have kc := h.cnt
  have kw := h.ways hx
  obtain ⟨g1, g2, g3, g4⟩ := hr
  have P : MS → Prop := fun _ => True
  -- the catches
  have L60 : ∀ (m : Nat) (U : MS) (c : Int32), HtS S U → (0 ≤ c.toInt ∧ c.toInt ≤ (qI S 0 54).toInt) → (∀ i k : Nat, bt (qI U 22 i) k = true → bt (qI S 22 i) k = true ∨ (k : Int) ≤ (qI S 0 56).toInt) → ((f_goesOn S (f_op S x)).toInt ≠ 0 → bt (qI U 22 (x.toInt.toNat + 1)) (hbV S x y.toInt).toNat = true) → (∀ k : Int32, 0 ≤ k.toInt → k.toInt < (f_ways S x).toInt → bt (qI U 22 (f_way S x k).toInt.toNat) (hbV S x y.toInt).toNat = true) → (∀ c' : Int32, 0 ≤ c'.toInt → c'.toInt < c.toInt → (f_isCaught S x c').toInt ≠ 0 → bt (qI U 22 (f_catchWord S c' 2).toInt.toNat) 1 = true) → (16 - c.toInt).toNat < m → w_spread_L60 (fun u => HtS S u ∧ ClH S u x y.toInt ∧ ∀ i k : Nat, bt (qI u 22 i) k = true → bt (qI S 22 i) k = true ∨ (k : Int) ≤ (qI S 0 56).toInt) m U x c := by
    intro m
    induction m with
    | zero => intro U c _ _ _ _ _ _ h9; exact absurd h9 (Nat.not_lt_zero _)
    | succ m ih =>
      intro U c hU hc hb k1 k2 k3 hm'
      have sL := hU.sL
      have KU := h.mv sL
      have e54 : qI U 0 54 = qI S 0 54 := (sL.2 54 (by decide) (by decide)).1
      have e52 : qI U 0 52 = qI S 0 52 := (sL.2 52 (by decide) (by decide)).1
      have ec : (c + Int32.ofInt 1).toInt = c.toInt + 1 := by rw [t_add (by rw [lo_1]; omega), lo_1]
      unfold w_spread_L60
      rw [e54, sL.ic h, sL.cw h]
      refine ⟨fun q => ⟨hU, ⟨k1, k2, fun c' a b d => k3 c' a (by omega) d⟩, hb⟩, fun q => ⟨KU.dic ⟨hc.1, by rw [e54]; omega⟩, fun z => ?_, fun z => ?_⟩⟩
      · unfold w_spread_J91
        intro a ea
        subst ea
        refine ih U _ hU ⟨by omega, by omega⟩ hb k1 k2 (fun c' a b d => ?_) (by omega)
        by_cases w : c'.toInt < c.toInt
        · exact k3 c' a w d
        · have : c' = c := Int32.toInt_inj.mp (by omega)
          rw [this] at d; exact absurd z d
      · have cw := (h.cw (c := c) ⟨hc.1, by omega⟩).2.2.1
        have m1 : 0 < (qI S 0 56).toInt := by
          rcases g3 with w | w
          · exact w
          · exact absurd ⟨c, ⟨hc.1, by omega⟩, z⟩ w
        refine ⟨KU.dcw ⟨hc.1, by rw [e54]; omega⟩ (by decide), _, sp_come (by rw [e52]; exact kc.1.2) (by rw [e52]; exact cw) (by decide), ?_⟩
        rintro V ⟨v1, v2, v3⟩
        have v2' : bt (qI V 22 (f_catchWord S c 2).toInt.toNat) 1 = true := v2
        have v3' : ∀ i k : Nat, bt (qI V 22 i) k = true → bt (qI U 22 i) k = true ∨ k = 1 := v3
        unfold w_spread_J91
        intro a ea
        subst ea
        refine ih V _ (hU.tr v1) ⟨by omega, by omega⟩ (fun i k q => ?_) (fun q => v1.2.1 _ _ (k1 q)) (fun k a b => v1.2.1 _ _ (k2 k a b)) (fun c' a b d => ?_) (by omega)
        · rcases v3' i k q with w | w
          · exact hb i k w
          · exact Or.inr (by omega)
        · by_cases w : c'.toInt < c.toInt
          · exact v1.2.1 _ _ (k3 c' a w d)
          · have : c' = c := Int32.toInt_inj.mp (by omega)
            rw [this]; exact v2'
  -- the ways
  have L29 : ∀ (m : Nat) (U : MS) (r k : Int32), r.toInt = hbV S x y.toInt → HtS S U → (0 ≤ k.toInt ∧ k.toInt ≤ (f_ways S x).toInt) → (∀ i k : Nat, bt (qI U 22 i) k = true → bt (qI S 22 i) k = true ∨ (k : Int) ≤ (qI S 0 56).toInt) → ((f_goesOn S (f_op S x)).toInt ≠ 0 → bt (qI U 22 (x.toInt.toNat + 1)) (hbV S x y.toInt).toNat = true) → (∀ k' : Int32, 0 ≤ k'.toInt → k'.toInt < k.toInt → bt (qI U 22 (f_way S x k').toInt.toNat) (hbV S x y.toInt).toNat = true) → (202 - k.toInt).toNat < m → w_spread_L29 (fun u => HtS S u ∧ ClH S u x y.toInt ∧ ∀ i k : Nat, bt (qI u 22 i) k = true → bt (qI S 22 i) k = true ∨ (k : Int) ≤ (qI S 0 56).toInt) m U x r k := by
    intro m
    induction m with
    | zero => intro U r k _ _ _ _ _ _ h9; exact absurd h9 (Nat.not_lt_zero _)
    | succ m ih =>
      intro U r k er hU hk hb k1 k2 hm'
      have sL := hU.sL
      have KU := h.mv sL
      have e52 : qI U 0 52 = qI S 0 52 := (sL.2 52 (by decide) (by decide)).1
      have kwU := KU.ways (x := x) (by rw [e52]; exact hx)
      have ek : (k + Int32.ofInt 1).toInt = k.toInt + 1 := by rw [t_add (by rw [lo_1]; omega), lo_1]
      unfold w_spread_L29
      refine ⟨kwU.1, ?_⟩
      rw [(sL.wy h x k).1] at kwU
      rw [(sL.wy h x k).1, (sL.wy h x k).2]
      refine ⟨fun q => ⟨_, L60 _ U 0 hU ⟨by decide, by rw [li_0]; omega⟩ hb k1 (fun k' a b => k2 k' a (by omega)) (fun c' a b => by rw [li_0] at b; omega) (Nat.lt_succ_self _)⟩, fun q => ⟨(kwU.2.2 k hk.1 (by omega)).1, _, sp_come (by rw [e52]; exact kc.1.2) (by rw [e52]; exact (kw.2.2 k hk.1 (by omega)).2) ⟨by omega, by omega⟩, ?_⟩⟩
      rintro V ⟨v1, v2, v3⟩ a ea
      subst ea
      rw [er] at v2 v3
      refine ih V r _ er (hU.tr v1) ⟨by omega, by omega⟩ (fun i k q => ?_) (fun q => v1.2.1 _ _ (k1 q)) (fun k' a b => ?_) (by omega)
      · rcases v3 i k q with w | w
        · exact hb i k w
        · exact Or.inr (by omega)
      · by_cases w : k'.toInt < k.toInt
        · exact v1.2.1 _ _ (k2 k' a w)
        · have : k' = k := Int32.toInt_inj.mp (by omega)
          rw [this]; exact v2
  unfold w_spread
  refine ⟨_, fn_hb h hx ht ⟨hy.1, by omega⟩, ?_⟩
  rintro r u ⟨rfl, er⟩
  have e1 : (x + (1 : Int32)).toInt = x.toInt + 1 := by rw [t_add (by rw [li_1]; omega), li_1]
  refine ⟨(h.dop hx).1, d_gO, fun q => ?_, fun q => ?_⟩
  · unfold w_spread_J26
    exact ⟨_, L29 _ u r 0 er HtS.rf ⟨by decide, by rw [li_0]; omega⟩ (fun i k w => Or.inl w) (fun z => absurd q z) (fun k' a b => by rw [li_0] at b; omega) (Nat.lt_succ_self _)⟩
  · have xl : x.toInt + 1 < (qI u 0 52).toInt := by
      rcases g4 with w | w
      · exact absurd w q
      · omega
    refine ⟨_, sp_come kc.1.2 (by omega) ⟨by omega, by omega⟩, ?_⟩
    rintro V ⟨v1, v2, v3⟩
    rw [er, e1, show (x.toInt + 1).toNat = x.toInt.toNat + 1 by omega] at v2
    rw [er] at v3
    unfold w_spread_J26
    refine ⟨_, L29 _ V r 0 er v1 ⟨by decide, by rw [li_0]; omega⟩ (fun i k w => ?_) (fun _ => v2) (fun k' a b => by rw [li_0] at b; omega) (Nat.lt_succ_self _)⟩
    rcases v3 i k w with z | z
    · exact Or.inl z
    · exact Or.inr (by omega)
/-! findHeights (behind sp_spread) -/
/-- heights at rest -/
def HtI (u : MS) : Prop := (∀ i k : Nat, (i : Int) < (qI u 0 52).toInt → bt (qI u 22 i) k = true → (k : Int) ≤ (qI u 0 56).toInt) ∧ bt (qI u 22 0) 0 = true ∧ ∀ (x : Int32) (y : Nat), 0 ≤ x.toInt → x.toInt < (qI u 0 52).toInt → bt (qI u 22 x.toInt.toNat) y = true → rgV u x y → ClH u u x y
theorem ClH.mv {S u v w : MS} {x : Int32} {y : Int} (h : ClH S v x y) (sL : smL S u) (k : LkI S) (t : TxI S) (hx : 0 ≤ x.toInt ∧ x.toInt < (qI S 0 52).toInt) (e : qI w 22 = qI v 22) : ClH u w x y := by
  unfold ClH
  rw [(sL.op k x).1, (sL.tv k t hx).2.2, (sL.wy k x 0).1, (sL.2 54 (by decide) (by decide)).1, e]
  exact ⟨h.1, fun c a b => by rw [(sL.wy k x c).2]; exact h.2.1 c a b, fun c a b d => by rw [sL.cw k]; exact h.2.2 c a b (by rw [sL.ic k] at d; exact d)⟩
/-- within a pass that began at A -/
def PsH (A U : MS) (i h : Int) : Prop := HtS A U ∧ (∀ j k : Nat, (j : Int) < (qI A 0 52).toInt → bt (qI U 22 j) k = true → (k : Int) ≤ (qI A 0 56).toInt) ∧ ((qI U 0 57).toInt = 0 → ∀ (x : Int32) (y : Nat), 0 ≤ x.toInt → x.toInt < (qI A 0 52).toInt → (x.toInt < i ∨ (x.toInt = i ∧ (y : Int) < h)) → bt (qI U 22 x.toInt.toNat) y = true → rgV A x y → ClH A U x y)
theorem sp_fh_L64 {A : MS} {Q : MS → Prop} {k54 : MS → Int32 → Int32 → Prop} {most i : Int32} (h : LkI A) (ht : TxI A) (hA : qI A 0 56 = most) (hm : 0 ≤ most.toInt ∧ most.toInt ≤ 28) (hi : 0 ≤ i.toInt ∧ i.toInt < (qI A 0 52).toInt) (hk : ∀ V : MS, PsH A V (i.toInt + 1) 0 → k54 V most (i + Int32.ofInt 1)) :
    ∀ (m : Nat) (U : MS) (y : Int32), (0 ≤ y.toInt ∧ y.toInt ≤ most.toInt + 1) → PsH A U i.toInt y.toInt → (30 - y.toInt).toNat < m → w_findHeights_L64 Q k54 m U most i y := by
  have kc := h.cnt
  intro m
  induction m with
  | zero => intro U y _ _ h9; exact absurd h9 (Nat.not_lt_zero _)
  | succ m ih =>
    rintro U y hy ⟨p1, p2, p3⟩ hm'
    have sL := p1.sL
    have KU := h.mv sL
    have TU := sL.tx ht
    have e52 : qI U 0 52 = qI A 0 52 := (sL.2 52 (by decide) (by decide)).1
    have e56 : qI U 0 56 = qI A 0 56 := (p1.1.2.2.2.2.2 56 (by decide)).1
    have ey : (y + Int32.ofInt 1).toInt = y.toInt + 1 := by rw [t_add (by rw [lo_1]; omega), lo_1]
    have ei : (i + Int32.ofInt 1).toInt = i.toInt + 1 := by rw [t_add (by rw [lo_1]; omega), lo_1]
    have hx : 0 ≤ i.toInt ∧ i.toInt < (qI U 0 52).toInt := by rw [e52]; exact hi
    unfold w_findHeights_L64
    refine ⟨fun c a ea => ?_, fun c => ⟨⟨hi.1, by omega⟩, fun q => ?_, fun q => ?_⟩⟩
    · subst ea
      refine hk U ⟨p1, p2, fun z x y' a b d e f => p3 z x y' a b ?_ e f⟩
      have := p2 x.toInt.toNat y' (by omega) e
      rw [hA] at this
      omega
    · have q' := (bt_test (v := qI U 22 i.toInt.toNat) hy.1 (by omega)).mp q
      refine ⟨_, fn_rg KU hx TU ⟨hy.1, by omega⟩, ?_⟩
      rintro r W ⟨rfl, er⟩
      have er2 : r.toInt ≠ 0 ↔ rgV A i y.toInt := er.trans (sL.rg h ht e56 hi)
      refine ⟨fun z => ?_, fun z => ⟨_, sp_spread KU TU hx ⟨hy.1, by omega⟩ (by rw [e56, hA]; exact hm.2) (er.mp z), ?_⟩⟩
      · unfold w_findHeights_J98
        intro a ea
        subst ea
        refine ih W _ ⟨by omega, by omega⟩ ⟨p1, p2, fun z2 x y' a b d e f => ?_⟩ (by omega)
        by_cases w : x.toInt < i.toInt ∨ (x.toInt = i.toInt ∧ (y' : Int) < y.toInt)
        · exact p3 z2 x y' a b w e f
        · have exx : x = i := Int32.toInt_inj.mp (by omega)
          have eyy : (y' : Int) = y.toInt := by omega
          rw [exx, eyy] at f
          exact absurd z (er2.mpr f)
      · rintro V ⟨v1, v2, v3⟩
        unfold w_findHeights_J98
        intro a ea
        subst ea
        have cl : ClH A V i y.toInt := by
          have z2 : ClH W V i y.toInt := v2
          unfold ClH at z2 ⊢
          rw [(sL.op h i).1, (sL.tv h ht hi).2.2, (sL.wy h i 0).1, (sL.2 54 (by decide) (by decide)).1] at z2
          exact ⟨z2.1, fun c a b => by have := z2.2.1 c a b; rw [(sL.wy h i c).2] at this; exact this, fun c a b d => by have := z2.2.2 c a b (by rw [sL.ic h]; exact d); rw [sL.cw h] at this; exact this⟩
        refine ih V _ ⟨by omega, by omega⟩ ⟨p1.tr v1, fun j k a b => ?_, fun z2 x y' a b d e f => ?_⟩ (by omega)
        · rcases v3 j k b with w | w
          · exact p2 j k a w
          · rw [e56] at w; exact w
        · have z3 := v1.2.2.1 z2
          by_cases w : x.toInt < i.toInt ∨ (x.toInt = i.toInt ∧ (y' : Int) < y.toInt)
          · rw [z3.2] at e
            exact (p3 z3.1 x y' a b w e f).up v1.2.1
          · have exx : x = i := Int32.toInt_inj.mp (by omega)
            have eyy : (y' : Int) = y.toInt := by omega
            rw [exx, eyy]
            exact cl
    · have q' : ¬ bt (qI U 22 i.toInt.toNat) y.toInt.toNat = true := fun z => q ((bt_test hy.1 (by omega)).mpr z)
      unfold w_findHeights_J98
      intro a ea
      subst ea
      refine ih U _ ⟨by omega, by omega⟩ ⟨p1, p2, fun z2 x y' a b d e f => ?_⟩ (by omega)
      by_cases w : x.toInt < i.toInt ∨ (x.toInt = i.toInt ∧ (y' : Int) < y.toInt)
      · exact p3 z2 x y' a b w e f
      · have exx : x = i := Int32.toInt_inj.mp (by omega)
        have eyy : y' = y.toInt.toNat := by omega
        rw [exx, eyy] at e
        exact absurd e q'
theorem sp_fh_L54 {A : MS} {Q : MS → Prop} {k40 : MS → Int32 → Prop} {most : Int32} (h : LkI A) (ht : TxI A) (hA : qI A 0 56 = most) (hm : 0 ≤ most.toInt ∧ most.toInt ≤ 28) (hk : ∀ V : MS, PsH A V (qI A 0 52).toInt 0 → k40 V most) :
    ∀ (m : Nat) (U : MS) (i : Int32), (0 ≤ i.toInt ∧ i.toInt ≤ (qI A 0 52).toInt) → PsH A U i.toInt 0 → (1200 - i.toInt).toNat < m → w_findHeights_L54 Q k40 m U most i := by
  have kc := h.cnt
  intro m
  induction m with
  | zero => intro U i _ _ h9; exact absurd h9 (Nat.not_lt_zero _)
  | succ m ih =>
    intro U i hi hP hm'
    have e52 : qI U 0 52 = qI A 0 52 := (hP.1.sL.2 52 (by decide) (by decide)).1
    have ei : (i + Int32.ofInt 1).toInt = i.toInt + 1 := by rw [t_add (by rw [lo_1]; omega), lo_1]
    unfold w_findHeights_L54
    rw [e52]
    refine ⟨fun c => hk U (by rw [show (qI A 0 52).toInt = i.toInt by omega]; exact hP), fun c => ⟨_, sp_fh_L64 h ht hA hm ⟨hi.1, by omega⟩ (fun V hV => ih V _ ⟨by omega, by omega⟩ (by rw [ei]; exact hV) (by omega)) _ U 0 ⟨by decide, by rw [li_0]; omega⟩ (by rw [li_0]; exact hP) (Nat.lt_succ_self _)⟩⟩
theorem sp_fh_L40 {S : MS} {Q : MS → Prop} {most : Int32} (h : LkI S) (ht : TxI S) (hm : 0 ≤ most.toInt ∧ most.toInt ≤ 28) (hQ : ∀ u : MS, frm [22] [56, 57] S u → qI u 0 56 = most → HtI u → Q u) :
    ∀ (m : Nat) (U : MS), frm [22] [56, 57] S U → qI U 0 56 = most → (∀ i k : Nat, (i : Int) < (qI S 0 52).toInt → bt (qI U 22 i) k = true → (k : Int) ≤ most.toInt) → bt (qI U 22 0) 0 = true → ((qI U 0 57).toInt = 0 → HtI U) → (Mh U + 1 < m ∨ ((qI U 0 57).toInt = 0 ∧ Mh U < m)) → w_findHeights_L40 Q m U most := by
  intro m
  induction m with
  | zero => intro U _ _ _ _ _ h9; omega
  | succ m ih =>
    intro U fU h56 hb h0 hz hm'
    unfold w_findHeights_L40
    refine ⟨fun c => hQ U fU h56 (hz c), fun c A eA => ?_⟩
    have sLU : smL S U := smL.fm fU (by decide) (by decide)
    have fA : frm [22] [56, 57] U A := by rw [eA]; exact frm.pI0 (by decide)
    have sLA : smL U A := smL.fm fA (by decide) (by decide)
    have sL := sLU.tr sLA
    have KA := h.mv sL
    have TA := sL.tx ht
    have a22 : qI A 22 = qI U 22 := by rw [eA, rdH (by decide)]
    have a56 : qI A 0 56 = most := by rw [eA, qI_wI, if_neg (by decide), h56]
    have a57 : (qI A 0 57).toInt = 0 := by rw [eA, qI_wI, if_pos ⟨rfl, rfl⟩]; rfl
    have a52 : qI A 0 52 = qI S 0 52 := (sL.2 52 (by decide) (by decide)).1
    have u52 : qI U 0 52 = qI S 0 52 := (sLU.2 52 (by decide) (by decide)).1
    have mA : Mh A = Mh U := by unfold Mh; rw [a22, a52, u52]
    have kc := KA.cnt
    refine ⟨_, sp_fh_L54 KA TA a56 hm (fun V hV => ?_) _ A 0 ⟨by decide, by rw [li_0]; omega⟩ ⟨HtS.rf, fun j k a b => by rw [a52] at a; rw [a22] at b; rw [a56]; exact hb j k a b, fun _ x y a b d => by rw [li_0] at d; omega⟩ (Nat.lt_succ_self _)⟩
    obtain ⟨v1, v2, v3⟩ := hV
    have sLV := v1.sL
    have v56 : qI V 0 56 = most := by rw [(v1.1.2.2.2.2.2 56 (by decide)).1, a56]
    have v52 : qI V 0 52 = qI A 0 52 := (sLV.2 52 (by decide) (by decide)).1
    have fV : frm [22] [56, 57] S V := (fU.tr fA).tr (v1.1.mo (by decide) (by decide))
    have vb : ∀ i k : Nat, (i : Int) < (qI S 0 52).toInt → bt (qI V 22 i) k = true → (k : Int) ≤ most.toInt := fun i k a b => by
      have := v2 i k (by rw [a52]; exact a) b
      rw [a56] at this
      exact this
    have v0 : bt (qI V 22 0) 0 = true := v1.2.1 0 0 (by rw [a22]; exact h0)
    have hzV : (qI V 0 57).toInt = 0 → HtI V := fun z => by
      refine ⟨fun i k a b => by rw [v56]; exact vb i k (by rw [v52, a52] at a; exact a) b, v0, fun x y a b d e => ?_⟩
      rw [v52] at b
      have e' : rgV A x y := (sLV.rg KA TA (v56.trans a56.symm) ⟨a, b⟩).mp e
      have cl := v3 z x y a b (Or.inl b) d e'
      exact cl.mv sLV KA TA ⟨a, b⟩ rfl
    by_cases z : (qI V 0 57).toInt = 0
    · exact ih V fV v56 vb v0 hzV (Or.inr ⟨z, by have := v1.2.2.2.1; omega⟩)
    · have lt := v1.2.2.2.2 a57 z
      exact ih V fV v56 vb v0 hzV (Or.inl (by omega))
theorem sp_findHeights {S : MS} {most : Int32} (h : LkI S) (ht : TxI S) (hm : 0 ≤ most.toInt ∧ most.toInt ≤ 28) : w_findHeights S most (fun u => frm [22] [56, 57] S u ∧ qI u 0 56 = most ∧ HtI u) := by
  have kc := h.cnt
  unfold w_findHeights
  intro A eA
  have fA : frm [22] [56, 57] S A := by rw [eA]; exact frm.pI0 (by decide)
  have a56 : qI A 0 56 = most := by rw [eA, qI_wI, if_pos ⟨rfl, rfl⟩]
  have L : ∀ (m : Nat) (U : MS) (i : Int32), (0 ≤ i.toInt ∧ i.toInt ≤ (qI S 0 52).toInt) → frm [22] [56, 57] S U → qI U 0 56 = most → (∀ j : Nat, (j : Int) < i.toInt → qI U 22 j = 0) → (1200 - i.toInt).toNat < m → w_findHeights_L7 (fun u => frm [22] [56, 57] S u ∧ qI u 0 56 = most ∧ HtI u) m U most i := by
    intro m
    induction m with
    | zero => intro U i _ _ _ _ h9; exact absurd h9 (Nat.not_lt_zero _)
    | succ m ih =>
      intro U i hi fU h56 hz hm'
      have e52 : qI U 0 52 = qI S 0 52 := (fU.2.2.2.2.2 52 (by decide)).1
      have ei : (i + Int32.ofInt 1).toInt = i.toInt + 1 := by rw [t_add (by rw [lo_1]; omega), lo_1]
      unfold w_findHeights_L7
      rw [e52]
      refine ⟨fun c B eB C eC => ?_, fun c => ⟨⟨hi.1, by omega⟩, fun B eB a ea => ?_⟩⟩
      · have fC : frm [22] [56, 57] S C := by
          have f1 : frm [22] [56, 57] U B := by rw [eB]; exact frm.pI (by decide)
          have f2 : frm [22] [56, 57] B C := by rw [eC]; exact frm.pI0 (by decide)
          exact (fU.tr f1).tr f2
        have c22 : ∀ j : Nat, qI C 22 j = if j = 0 then 1 else qI U 22 j := fun j => by
          rw [eC, rdH (by decide), eB, qI_wI]
          by_cases z : j = 0
          · rw [if_pos ⟨rfl, z⟩, if_pos z]
          · rw [if_neg (fun q => z q.2), if_neg z]
        have c56 : qI C 0 56 = most := by rw [eC, qI_wI, if_neg (by decide), eB, rdH (by decide), h56]
        have b1 : ∀ k : Nat, bt (1 : Int32) k = true → k = 0 := fun k q => by
          unfold bt at q
          rw [show (1 : Int32).toBitVec = 1#32 from rfl, BitVec.getLsbD_one] at q
          simp at q
          exact q
        have b0 : ∀ k : Nat, ¬ bt (0 : Int32) k = true := fun k q => by
          unfold bt at q
          rw [show (0 : Int32).toBitVec = 0#32 from rfl, BitVec.getLsbD_zero] at q
          exact absurd q (by decide)
        refine ⟨_, sp_fh_L40 h ht hm (fun u a b d => ⟨a, b, d⟩) _ C fC c56 (fun j k a b => ?_) ?_ (fun z => ?_) (Or.inl (Nat.lt_succ_self _))⟩
        · rw [c22] at b
          by_cases z : j = 0
          · rw [if_pos z] at b
            have := b1 k b
            omega
          · rw [if_neg z, hz j (by omega)] at b
            exact absurd b (b0 k)
        · rw [c22, if_pos rfl]; decide
        · rw [eC, qI_wI, if_pos ⟨rfl, rfl⟩] at z; exact absurd z (by decide)
      · subst ea
        refine ih B _ ⟨by omega, by omega⟩ (fU.tr (by rw [eB]; exact frm.pI (by decide))) (by rw [eB, rdH (by decide)]; exact h56) (fun j hj => ?_) (by omega)
        rw [eB, qI_wI]
        by_cases z : j = i.toInt.toNat
        · rw [if_pos ⟨rfl, z⟩]
        · rw [if_neg (fun q => z q.2)]; exact hz j (by omega)
  exact ⟨_, L _ A 0 ⟨by decide, by rw [li_0]; omega⟩ fA a56 (fun j hj => by rw [li_0] at hj; omega) (Nat.lt_succ_self _)⟩
/-! the checker's own work, as functions (behind sp_findHeights) -/
def AS : Type := (Nat → Int32) × (Nat → Int32) × Int32 × Int32
def aL (a : AS) : Nat → Int32 := a.1
def aP (a : AS) : Nat → Int32 := a.2.1
def aT (a : AS) : Int32 := a.2.2.1
def aF (a : AS) : Int32 := a.2.2.2
def absS (S : MS) : AS := (qI S 25, qI S 26, qI S 0 62, qI S 0 63)
def aPush (t : Int32) (a : AS) : AS := (aL a, upd (aP a) (aT a).toInt.toNat (vp_nar .byte (t.toInt8.toInt32)), aT a + 1, aF a)
def aPull (a : AS) : AS := (aL a, aP a, aT a - 1, aF a)
def aTop (a : AS) : Int32 := aP a (aT a - 1).toInt.toNat
def aNeed (g : Int32) (a : AS) : AS := (aL a, aP a, aT a, if (aF a).toInt = 0 then 0 else if g.toInt = 0 then 0 else 1)
def aSet (k : Nat) (t : Int32) (a : AS) : AS := (upd (aL a) k (vp_nar .byte (t.toInt8.toInt32)), aP a, aT a, aF a)
def isTh (r : Int32) : Int32 := if r.toInt = 4 then 1 else if r.toInt = 5 then 1 else if r.toInt = 6 then 1 else 0
def isOn (r : Int32) : Int32 := if r.toInt = 1 then 1 else if (isTh r).toInt = 0 then 0 else 1
theorem f_th {S : MS} {r : Int32} : f_isThing S r = isTh r ∧ d_isThing S r := by
  unfold f_isThing isTh d_isThing f_isThing_J16 d_isThing_J16
  simp only [ite_self]
  exact ⟨trivial, trivial⟩
theorem f_on {S : MS} {r : Int32} : f_isOne S r = isOn r ∧ d_isOne S r := by
  unfold f_isOne isOn d_isOne f_isOne_J12 d_isOne_J12
  rw [(f_th (S := S) (r := r)).1]
  refine ⟨rfl, ?_⟩
  by_cases c : r.toInt = 1
  · rw [if_pos c]; trivial
  · rw [if_neg c, ite_self]
    exact ⟨(f_th (S := S) (r := r)).2, trivial⟩
/-- from S, and the four are now a -/
def PA (S : MS) (a : AS) (u : MS) : Prop := frm [25, 26] [62, 63] S u ∧ absS u = a
theorem PA.rf {S : MS} : PA S (absS S) S := ⟨frm.rf, rfl⟩
theorem PA.sL {S u : MS} {a : AS} (h : PA S a u) : smL S u := smL.fm h.1 (by decide) (by decide)
theorem PA.l {S u : MS} {a : AS} (h : PA S a u) : qI u 25 = aL a ∧ qI u 26 = aP a ∧ qI u 0 62 = aT a ∧ qI u 0 63 = aF a := by
  obtain ⟨-, e⟩ := h
  subst e
  exact ⟨rfl, rfl, rfl, rfl⟩
theorem fn_push {S U : MS} {a : AS} {t : Int32} (h : PA S a U) (ht : 0 ≤ (aT a).toInt ∧ (aT a).toInt < 28) : w_push U t (PA S (aPush t a)) := by
  obtain ⟨e1, e2, e3, e4⟩ := h.l
  unfold w_push
  rw [e3]
  refine ⟨ht, fun A eA B eB => ?_⟩
  have a62 : qI A 0 62 = aT a := by rw [eA, rdH (by decide), e3]
  rw [a62] at eB
  refine ⟨h.1.tr ((show frm [25, 26] [62, 63] U A by rw [eA]; exact frm.pI (by decide)).tr (by rw [eB]; exact frm.pI0 (by decide))), ?_⟩
  unfold absS aPush
  rw [show qI B 25 = aL a by rw [eB, rdH (by decide), eA, rdH (by decide), e1], show qI B 26 = upd (aP a) (aT a).toInt.toNat (vp_nar .byte (t.toInt8.toInt32)) by rw [eB, rdH (by decide), eA, qI_self, e2], show qI B 0 62 = aT a + 1 by rw [eB, qI_wI, if_pos ⟨rfl, rfl⟩], show qI B 0 63 = aF a by rw [eB, qI_wI, if_neg (by decide), eA, rdH (by decide), e4]]
theorem fn_pull {S U : MS} {a : AS} (h : PA S a U) (ht : 1 ≤ (aT a).toInt ∧ (aT a).toInt ≤ 28) : w_pull U (fun r u => r = aTop a ∧ PA S (aPull a) u) := by
  obtain ⟨e1, e2, e3, e4⟩ := h.l
  have e : (aT a - (1 : Int32)).toInt = (aT a).toInt - 1 := by rw [t_sub (by rw [li_1]; omega), li_1]
  unfold w_pull
  intro A eA
  rw [e3] at eA
  have a62 : qI A 0 62 = aT a - 1 := by rw [eA, qI_wI, if_pos ⟨rfl, rfl⟩]
  have a26 : qI A 26 = aP a := by rw [eA, rdH (by decide), e2]
  rw [a62, a26]
  refine ⟨⟨by omega, by omega⟩, rfl, h.1.tr (by rw [eA]; exact frm.pI0 (by decide)), ?_⟩
  unfold absS aPull
  rw [a62, a26, show qI A 25 = aL a by rw [eA, rdH (by decide), e1], show qI A 0 63 = aF a by rw [eA, qI_wI, if_neg (by decide), e4]]
theorem fn_need {S U : MS} {a : AS} {g : Int32} (h : PA S a U) : w_need U g (PA S (aNeed g a)) := by
  obtain ⟨e1, e2, e3, e4⟩ := h.l
  have st : ∀ (v : Int32) (B : MS), B = wI U 0 63 v → v = (if (aF a).toInt = 0 then 0 else if g.toInt = 0 then 0 else 1) → PA S (aNeed g a) B := fun v B eB ev => by
    refine ⟨h.1.tr (by rw [eB]; exact frm.pI0 (by decide)), ?_⟩
    unfold absS aNeed
    rw [show qI B 25 = aL a by rw [eB, rdH (by decide), e1], show qI B 26 = aP a by rw [eB, rdH (by decide), e2], show qI B 0 62 = aT a by rw [eB, qI_wI, if_neg (by decide), e3], show qI B 0 63 = v by rw [eB, qI_wI, if_pos ⟨rfl, rfl⟩], ev]
  unfold w_need w_need_J16
  rw [e4]
  exact ⟨fun c B eB => st 0 B eB (by rw [if_pos c]), fun c => ⟨fun c2 B eB => st 0 B eB (by rw [if_neg c, if_pos c2]), fun c2 B eB => st 1 B eB (by rw [if_neg c, if_neg c2])⟩⟩
theorem fn_set {S U : MS} {a : AS} {k t : Int32} (h : PA S a U) (hk : 0 ≤ k.toInt ∧ k.toInt < 24) : w_setLocal U k t (PA S (aSet k.toInt.toNat t a)) := by
  obtain ⟨e1, e2, e3, e4⟩ := h.l
  unfold w_setLocal
  refine ⟨hk, fun B eB => ⟨h.1.tr (by rw [eB]; exact frm.pI (by decide)), ?_⟩⟩
  unfold absS aSet
  rw [show qI B 25 = upd (aL a) k.toInt.toNat (vp_nar .byte (t.toInt8.toInt32)) by rw [eB, qI_self, e1], show qI B 26 = aP a by rw [eB, rdH (by decide), e2], show qI B 0 62 = aT a by rw [eB, rdH (by decide), e3], show qI B 0 63 = aF a by rw [eB, rdH (by decide), e4]]
/-- one letter is taken -/
def aTake (c : Int32) (a : AS) : AS :=
  if c.toInt = 73 then aNeed (if (aTop a).toInt = 1 then 1 else 0) (aPull a)
  else if c.toInt = 65 then aNeed (if (aTop a).toInt = 4 then 1 else if (aTop a).toInt = 6 then 1 else 0) (aPull a)
  else if c.toInt = 69 then aNeed (if (aTop a).toInt = 5 then 1 else if (aTop a).toInt = 6 then 1 else 0) (aPull a)
  else if c.toInt = 82 then aNeed (isTh (aTop a)) (aPull a)
  else aNeed (if (aTop a).toInt = 3 then (if (aTop (aPull a)).toInt = 2 then 1 else 0) else 0) (aPull (aPull a))
theorem fn_take {S U : MS} {a : AS} {c : Int32} {Q : MS → Prop} (h : PA S a U) (ht : 1 ≤ (aT a).toInt ∧ (aT a).toInt ≤ 28) (h2 : c.toInt = 73 ∨ c.toInt = 65 ∨ c.toInt = 69 ∨ c.toInt = 82 ∨ 2 ≤ (aT a).toInt) (hQ : ∀ u, PA S (aTake c a) u → Q u) : w_takeLetter U c Q := by
  have e : (aT (aPull a)).toInt = (aT a).toInt - 1 := by
    show (aT a - (1 : Int32)).toInt = _
    rw [t_sub (by rw [li_1]; omega), li_1]
  unfold w_takeLetter
  refine ⟨_, fn_pull h ht, ?_⟩
  rintro r V ⟨er, hV⟩
  subst er
  refine ⟨fun c1 => ?_, fun c1 => ⟨fun c2 => ?_, fun c2 => ⟨fun c3 => ?_, fun c3 => ⟨fun c4 => ?_, fun c4 => ?_⟩⟩⟩⟩
  · have st : ∀ t : Int32, t = (if (aTop a).toInt = 1 then 1 else 0) → w_takeLetter_J22 Q V t := fun t et => ⟨_, fn_need hV, fun u hu => hQ u (by unfold aTake; rw [if_pos c1, ← et]; exact hu)⟩
    exact ⟨fun q => st 1 (by rw [if_pos q]), fun q => st 0 (by rw [if_neg q])⟩
  · have st : ∀ t : Int32, t = (if (aTop a).toInt = 4 then 1 else if (aTop a).toInt = 6 then 1 else 0) → w_takeLetter_J51 Q V t := fun t et => ⟨_, fn_need hV, fun u hu => hQ u (by unfold aTake; rw [if_neg c1, if_pos c2, ← et]; exact hu)⟩
    unfold w_takeLetter_J46
    exact ⟨fun q => st 1 (by rw [if_pos q]), fun q => ⟨fun q2 => st 1 (by rw [if_neg q, if_pos q2]), fun q2 => st 0 (by rw [if_neg q, if_neg q2])⟩⟩
  · have st : ∀ t : Int32, t = (if (aTop a).toInt = 5 then 1 else if (aTop a).toInt = 6 then 1 else 0) → w_takeLetter_J80 Q V t := fun t et => ⟨_, fn_need hV, fun u hu => hQ u (by unfold aTake; rw [if_neg c1, if_neg c2, if_pos c3, ← et]; exact hu)⟩
    unfold w_takeLetter_J75
    exact ⟨fun q => st 1 (by rw [if_pos q]), fun q => ⟨fun q2 => st 1 (by rw [if_neg q, if_pos q2]), fun q2 => st 0 (by rw [if_neg q, if_neg q2])⟩⟩
  · refine ⟨(f_th (S := V)).2, ?_⟩
    rw [(f_th (S := V)).1]
    exact ⟨_, fn_need hV, fun u hu => hQ u (by unfold aTake; rw [if_neg c1, if_neg c2, if_neg c3, if_pos c4]; exact hu)⟩
  · refine ⟨_, fn_pull hV ⟨by omega, by omega⟩, ?_⟩
    rintro r2 W ⟨er2, hW⟩
    subst er2
    have st : ∀ t : Int32, t = (if (aTop a).toInt = 3 then (if (aTop (aPull a)).toInt = 2 then 1 else 0) else 0) → w_takeLetter_J124 Q W t := fun t et => ⟨_, fn_need hW, fun u hu => hQ u (by unfold aTake; rw [if_neg c1, if_neg c2, if_neg c3, if_neg c4, ← et]; exact hu)⟩
    unfold w_takeLetter_J123
    exact ⟨fun q => ⟨fun q2 => st 1 (by rw [if_pos q, if_pos q2]), fun q2 => st 0 (by rw [if_pos q, if_neg q2])⟩, fun q => st 0 (by rw [if_neg q])⟩
theorem t_take {c : Int32} {a : AS} (ht : 1 ≤ (aT a).toInt ∧ (aT a).toInt ≤ 28) (hc : c.toInt = 73 ∨ c.toInt = 74 ∨ c.toInt = 65 ∨ c.toInt = 69 ∨ c.toInt = 82) : (aT (aTake c a)).toInt = (aT a).toInt - if c.toInt = 74 then 2 else 1 := by
  have e : (aT (aPull a)).toInt = (aT a).toInt - 1 := by
    show (aT a - (1 : Int32)).toInt = _
    rw [t_sub (by rw [li_1]; omega), li_1]
  have e2 : (aT (aPull (aPull a))).toInt = (aT a).toInt - 2 := by
    show (aT (aPull a) - (1 : Int32)).toInt = _
    rw [t_sub (by rw [li_1]; omega), li_1, e]
    omega
  have one : (aT (aPull a)).toInt = (aT a).toInt - (if c.toInt = 74 then 2 else 1) ∨ c.toInt = 74 := by
    by_cases z : c.toInt = 74
    · exact Or.inr z
    · rw [if_neg z]; exact Or.inl e
  have two : c.toInt = 74 → (aT (aPull (aPull a))).toInt = (aT a).toInt - (if c.toInt = 74 then 2 else 1) := fun z => by rw [if_pos z]; exact e2
  unfold aTake
  by_cases c1 : c.toInt = 73
  · rw [if_pos c1]
    rcases one with q | q
    · exact q
    · omega
  · rw [if_neg c1]
    by_cases c2 : c.toInt = 65
    · rw [if_pos c2]
      rcases one with q | q
      · exact q
      · omega
    · rw [if_neg c2]
      by_cases c3 : c.toInt = 69
      · rw [if_pos c3]
        rcases one with q | q
        · exact q
        · omega
      · rw [if_neg c3]
        by_cases c4 : c.toInt = 82
        · rw [if_pos c4]
          rcases one with q | q
          · exact q
          · omega
        · rw [if_neg c4]
          exact two (by omega)
def aTakes (g : Nat → Int32) : Nat → AS → AS
  | 0, a => a
  | n + 1, a => aTakes g n (aTake (g n) a)
theorem t_takes {g : Nat → Int32} : ∀ (n : Nat) (a : AS), (∀ i : Nat, i < n → (g i).toInt = 73 ∨ (g i).toInt = 74 ∨ (g i).toInt = 65 ∨ (g i).toInt = 69 ∨ (g i).toInt = 82) → plc g n ≤ (aT a).toInt → (aT a).toInt ≤ 28 → (aT (aTakes g n a)).toInt = (aT a).toInt - plc g n := by
  intro n
  induction n with
  | zero => intro a _ _ _; unfold aTakes plc; omega
  | succ n ih =>
    intro a hl hp ht
    have p0 := plc_ge (g := g) n
    unfold plc at hp ⊢
    have h1 : 1 ≤ (aT a).toInt := by
      by_cases z : (g n).toInt = 74
      · rw [if_pos z] at hp; omega
      · rw [if_neg z] at hp; omega
    have e := t_take (c := g n) ⟨h1, ht⟩ (hl n (by omega))
    unfold aTakes
    have z01 : (if (g n).toInt = 74 then (2 : Int) else 1) ≤ 2 ∧ 1 ≤ (if (g n).toInt = 74 then (2 : Int) else 1) := by split <;> omega
    rw [ih _ (fun i hi => hl i (by omega)) (by omega) (by omega), e]
    omega
/-- one letter is given -/
def aGive (c th : Int32) (a : AS) : AS := if c.toInt = 74 then aPush 3 (aPush 2 a) else aPush (if c.toInt = 73 then 1 else if c.toInt = 65 then 4 else if c.toInt = 78 then 6 else th) a
def aGives (g : Nat → Int32) (th : Int32) (k : Nat) : Nat → AS → AS
  | 0, a => a
  | n + 1, a => aGives g th (k + 1) n (aGive (g k) th a)
theorem t_push {t : Int32} {a : AS} (h : 0 ≤ (aT a).toInt ∧ (aT a).toInt < 28) : (aT (aPush t a)).toInt = (aT a).toInt + 1 := by
  show (aT a + (1 : Int32)).toInt = _
  rw [t_add (by rw [li_1]; omega), li_1]
theorem fn_gives {S U : MS} {a : AS} {s : Nat} {th : Int32} {Q : MS → Prop} (h : PA S a U) (hs : gvS S s) (ht : 0 ≤ (aT a).toInt ∧ (aT a).toInt + plS S s ≤ 28) (hQ : ∀ u, PA S (aGives (qI S (s + 1)) th 0 (qN S (s + 1)) a) u → Q u) : w_giveLetters U s th Q := by
  obtain ⟨s1, s2, s3, s4, s5⟩ := hs
  have L : ∀ (m : Nat) (U : MS) (k : Int32) (b : AS), PA S b U → (0 ≤ k.toInt ∧ k.toInt ≤ qN S (s + 1)) → aGives (qI S (s + 1)) th k.toInt.toNat (qN S (s + 1) - k.toInt.toNat) b = aGives (qI S (s + 1)) th 0 (qN S (s + 1)) a → (aT b).toInt = (aT a).toInt + plc (qI S (s + 1)) k.toInt.toNat → (8 - k.toInt).toNat < m → w_giveLetters_L2 Q m U s th k := by
    intro m
    induction m with
    | zero => intro U k b _ _ _ _ h9; exact absurd h9 (Nat.not_lt_zero _)
    | succ m ih =>
      intro U k b hU hk he hT hm
      have z := hU.sL.1.1 (s + 1) s1
      have ek : (k + Int32.ofInt 1).toInt = k.toInt + 1 := by rw [t_add (by rw [lo_1]; omega), lo_1]
      have en : (k + Int32.ofInt 1).toInt.toNat = k.toInt.toNat + 1 := by omega
      unfold w_giveLetters_L2
      rw [z.2.2.2.2, oN (by omega)]
      refine ⟨fun c => hQ U ?_, fun c => ⟨⟨hk.1, by omega⟩, fun a5 e5 => ?_⟩⟩
      · rw [show qN S (s + 1) - k.toInt.toNat = 0 by omega] at he
        rw [← he]
        exact hU
      · have hl := s3 k.toInt.toNat (by omega)
        have ec : a5 = qI S (s + 1) k.toInt.toNat := by
          rw [e5]
          unfold cAt
          rw [z.1]
          exact (asc (by omega) (by omega)).2.2
        subst ec
        -- room for what is given
        have mono : ∀ n : Nat, n ≤ qN S (s + 1) → plc (qI S (s + 1)) n ≤ plS S s := by
          have up : ∀ (d n : Nat), plc (qI S (s + 1)) n ≤ plc (qI S (s + 1)) (n + d) := by
            intro d
            induction d with
            | zero => intro n; exact Int.le_refl _
            | succ d ih2 =>
              intro n
              have := ih2 n
              have e9 : plc (qI S (s + 1)) (n + (d + 1)) = plc (qI S (s + 1)) (n + d) + if (qI S (s + 1) (n + d)).toInt = 74 then 2 else 1 := rfl
              rw [e9]
              split <;> omega
          intro n hn
          have := up (qN S (s + 1) - n) n
          rw [show n + (qN S (s + 1) - n) = qN S (s + 1) by omega] at this
          exact this
        have mk := mono (k.toInt.toNat + 1) (by omega)
        have pk : plc (qI S (s + 1)) (k.toInt.toNat + 1) = plc (qI S (s + 1)) k.toInt.toNat + if (qI S (s + 1) k.toInt.toNat).toInt = 74 then 2 else 1 := rfl
        have p0 := plc_ge (g := qI S (s + 1)) k.toInt.toNat
        have hg : aGives (qI S (s + 1)) th (k.toInt.toNat + 1) (qN S (s + 1) - (k.toInt.toNat + 1)) (aGive (qI S (s + 1) k.toInt.toNat) th b) = aGives (qI S (s + 1)) th 0 (qN S (s + 1)) a := by
          rw [← he, show qN S (s + 1) - k.toInt.toNat = (qN S (s + 1) - (k.toInt.toNat + 1)) + 1 by omega]
          rfl
        refine ⟨fun c1 => ?_, fun c1 => ?_⟩
        · rw [if_pos c1] at pk
          have t1 := t_push (t := 2) (a := b) ⟨by omega, by omega⟩
          have t2 := t_push (t := 3) (a := aPush 2 b) ⟨by omega, by omega⟩
          refine ⟨_, fn_push hU ⟨by omega, by omega⟩, fun V hV => ⟨_, fn_push hV ⟨by omega, by omega⟩, fun W hW => ?_⟩⟩
          unfold w_giveLetters_J76
          intro a6 e6
          subst e6
          refine ih W _ (aGive (qI S (s + 1) k.toInt.toNat) th b) (by unfold aGive; rw [if_pos c1]; exact hW) ⟨by omega, by omega⟩ (by rw [en]; exact hg) ?_ (by omega)
          rw [en, pk]
          unfold aGive
          rw [if_pos c1]
          omega
        · rw [if_neg c1] at pk
          have st : ∀ t : Int32, t = (if (qI S (s + 1) k.toInt.toNat).toInt = 73 then 1 else if (qI S (s + 1) k.toInt.toNat).toInt = 65 then 4 else if (qI S (s + 1) k.toInt.toNat).toInt = 78 then 6 else th) → w_giveLetters_J73 Q (w_giveLetters_L2 Q m) U t s th k := fun t et => by
            have t1 := t_push (t := t) (a := b) ⟨by omega, by omega⟩
            refine ⟨_, fn_push hU ⟨by omega, by omega⟩, fun V hV => ?_⟩
            unfold w_giveLetters_J76
            intro a6 e6
            subst e6
            have eg : aGive (qI S (s + 1) k.toInt.toNat) th b = aPush t b := by unfold aGive; rw [if_neg c1, ← et]
            refine ih V _ (aGive (qI S (s + 1) k.toInt.toNat) th b) (by rw [eg]; exact hV) ⟨by omega, by omega⟩ (by rw [en]; exact hg) ?_ (by omega)
            rw [en, pk, eg]
            omega
          exact ⟨fun q => st 1 (by rw [if_pos q]), fun q => ⟨fun q2 => st 4 (by rw [if_neg q, if_pos q2]), fun q2 => ⟨fun q3 => st 6 (by rw [if_neg q, if_neg q2, if_pos q3]), fun q3 => st th (by rw [if_neg q, if_neg q2, if_neg q3])⟩⟩⟩
  unfold w_giveLetters
  exact ⟨_, L _ U 0 a h ⟨by decide, by rw [li_0]; omega⟩ rfl (by rw [li_0]; show _ = _ + 0; omega) (Nat.lt_succ_self _)⟩
/-! store, move, work as functions (behind fn_gives) -/
def aStore (op k : Int32) (th : Int32) (a : AS) : AS :=
  let n : Int32 := if op.toInt = 55 then 2 else 1
  let a1 := if k.toInt ≤ 0 then a else if (aL a (k - 1).toInt.toNat).toInt = 2 then aSet (k - 1).toInt.toNat 0 a else a
  let a2 := if 24 ≤ (k + n).toInt then a1 else if (aL a1 (k + n).toInt.toNat).toInt = 3 then aSet (k + n).toInt.toNat 0 a1 else a1
  let a3 := aSet k.toInt.toNat (if op.toInt = 54 then 1 else if op.toInt = 55 then 2 else th) a2
  if n.toInt = 2 then aSet (k + 1).toInt.toNat 3 a3 else a3
theorem fn_store {S U : MS} {a : AS} {op k th : Int32} {Q : MS → Prop} (h : PA S a U) (hk : 0 ≤ k.toInt ∧ k.toInt < 24) (h55 : op.toInt = 55 → k.toInt + 1 < 24) (hQ : ∀ u, PA S (aStore op k th a) u → Q u) : w_store U op k th Q := by
  have e1 : (k - (1 : Int32)).toInt = k.toInt - 1 := by rw [t_sub (by rw [li_1]; omega), li_1]
  have e2 : (k + (1 : Int32)).toInt = k.toInt + 1 := by rw [t_add (by rw [li_1]; omega), li_1]
  have s91 : ∀ (n t : Int32) (b : AS) (V : MS), PA S b V → n = (if op.toInt = 55 then 2 else 1) → t = (if op.toInt = 54 then 1 else if op.toInt = 55 then 2 else th) → (∀ u, PA S (if n.toInt = 2 then aSet (k + 1).toInt.toNat 3 (aSet k.toInt.toNat t b) else aSet k.toInt.toNat t b) u → Q u) → w_store_J91 Q V t k k n := fun n t b V hV en et hq => by
    unfold w_store_J91
    refine ⟨_, fn_set hV hk, fun W hW => ⟨fun c => ⟨_, fn_set hW ⟨by omega, ?_⟩, fun X hX => hq X (by rw [if_pos c]; exact hX)⟩, fun c => hq W (by rw [if_neg c]; exact hW)⟩⟩
    by_cases z : op.toInt = 55
    · have := h55 z; omega
    · rw [en, if_neg z] at c; exact absurd c (by decide)
  have s68 : ∀ (n : Int32) (b : AS) (V : MS), PA S b V → n = (if op.toInt = 55 then 2 else 1) → (∀ u, PA S (if n.toInt = 2 then aSet (k + 1).toInt.toNat 3 (aSet k.toInt.toNat (if op.toInt = 54 then 1 else if op.toInt = 55 then 2 else th) b) else aSet k.toInt.toNat (if op.toInt = 54 then 1 else if op.toInt = 55 then 2 else th) b) u → Q u) → w_store_J68 Q V op k th n := fun n b V hV en hq => by
    unfold w_store_J68
    refine ⟨fun c => s91 n 1 b V hV en (by rw [if_pos c]) (by rw [if_pos c] at hq; exact hq), fun c => ⟨fun c2 => s91 n 2 b V hV en (by rw [if_neg c, if_pos c2]) (by rw [if_neg c, if_pos c2] at hq; exact hq), fun c2 => s91 n th b V hV en (by rw [if_neg c, if_neg c2]) (by rw [if_neg c, if_neg c2] at hq; exact hq)⟩⟩
  have s37 : ∀ (n : Int32) (b : AS) (V : MS), PA S b V → n = (if op.toInt = 55 then 2 else 1) → (∀ u, PA S (let a2 := if 24 ≤ (k + n).toInt then b else if (aL b (k + n).toInt.toNat).toInt = 3 then aSet (k + n).toInt.toNat 0 b else b
    let a3 := aSet k.toInt.toNat (if op.toInt = 54 then 1 else if op.toInt = 55 then 2 else th) a2
    if n.toInt = 2 then aSet (k + 1).toInt.toNat 3 a3 else a3) u → Q u) → w_store_J37 Q V op k th n := fun n b V hV en hq => by
    have n2 : 1 ≤ n.toInt ∧ n.toInt ≤ 2 := by rw [en]; split <;> decide
    have ekn : (k + n).toInt = k.toInt + n.toInt := t_add (by omega)
    obtain ⟨l1, l2, l3, l4⟩ := hV.l
    unfold w_store_J37
    rw [l1]
    refine ⟨fun c => s68 n b V hV en (by simp only [if_pos c] at hq; exact hq), fun c => ⟨⟨by omega, by omega⟩, fun c2 => ⟨_, fn_set hV ⟨by omega, by omega⟩, fun W hW => s68 n _ W hW en (by simp only [if_neg c, if_pos c2] at hq; exact hq)⟩, fun c2 => s68 n b V hV en (by simp only [if_neg c, if_neg c2] at hq; exact hq)⟩⟩
  have s11 : ∀ n : Int32, n = (if op.toInt = 55 then 2 else 1) → w_store_J11 Q U n op k th := fun n en => by
    obtain ⟨l1, l2, l3, l4⟩ := h.l
    have hq : ∀ b : AS, b = (if k.toInt ≤ 0 then a else if (aL a (k - 1).toInt.toNat).toInt = 2 then aSet (k - 1).toInt.toNat 0 a else a) → ∀ u, PA S (let a2 := if 24 ≤ (k + n).toInt then b else if (aL b (k + n).toInt.toNat).toInt = 3 then aSet (k + n).toInt.toNat 0 b else b
      let a3 := aSet k.toInt.toNat (if op.toInt = 54 then 1 else if op.toInt = 55 then 2 else th) a2
      if n.toInt = 2 then aSet (k + 1).toInt.toNat 3 a3 else a3) u → Q u := fun b eb u hu => hQ u (by unfold aStore; rw [← en, ← eb]; exact hu)
    unfold w_store_J11
    rw [l1]
    refine ⟨fun c => s37 n a U h en (hq a (by rw [if_pos c])), fun c => ⟨⟨by omega, by omega⟩, fun c2 => ⟨_, fn_set h ⟨by omega, by omega⟩, fun W hW => s37 n _ W hW en (hq _ (by rw [if_neg c, if_pos c2]))⟩, fun c2 => s37 n a U h en (hq a (by rw [if_neg c, if_neg c2]))⟩⟩
  unfold w_store
  exact ⟨fun c => s11 2 (by rw [if_pos c]), fun c => s11 1 (by rw [if_neg c])⟩
/-- move -/
def aMv1 (op y x : Int32) (a : AS) : AS :=
  let b1 := if op.toInt = 90 then aPush y a else if op.toInt = 95 then aPush y a else a
  let b2 := if op.toInt = 92 then aPush x b1 else if op.toInt = 90 then aPush x b1 else if op.toInt = 95 then aPush x b1 else b1
  let b3 := if op.toInt = 95 then b2 else aPush y b2
  let b4 := if op.toInt = 92 then aPush x b3 else b3
  if op.toInt = 92 then aPush y b4 else if op.toInt = 89 then aPush y b4 else b4
def aMove (op : Int32) (a : AS) : AS :=
  let y := aTop a
  let two := op.toInt = 88 ∨ op.toInt = 90 ∨ op.toInt = 92 ∨ op.toInt = 95
  let x : Int32 := if op.toInt = 87 then 1 else if op.toInt = 89 then 1 else aTop (aPull a)
  let a1 := if op.toInt = 87 then aPull a else if op.toInt = 89 then aPull a else aPull (aPull a)
  let w : Int32 := if (op.toInt = 88 ∨ op.toInt = 92) ∧ x.toInt = 2 ∧ y.toInt = 3 then 1 else 0
  let a2 := aNeed (if w.toInt = 0 then (if (isOn x).toInt = 0 then 0 else if (isOn y).toInt = 0 then 0 else 1) else 1) a1
  let x2 : Int32 := if w.toInt = 0 then (if (isOn x).toInt = 0 then 0 else x) else x
  let y2 : Int32 := if w.toInt = 0 then (if (isOn y).toInt = 0 then 0 else y) else y
  if op.toInt = 87 then a2 else if op.toInt = 88 then a2 else aMv1 op y2 x2 a2
theorem fn_mv1 {S U : MS} {a : AS} {op y x : Int32} {Q : MS → Prop} (h : PA S a U) (ho : op.toInt = 89 ∨ op.toInt = 90 ∨ op.toInt = 92 ∨ op.toInt = 95) (ht : 0 ≤ (aT a).toInt ∧ (aT a).toInt ≤ 24) (hQ : ∀ u, PA S (aMv1 op y x a) u → Q u) : ((op.toInt = 90 → w_move_J132 Q U op y x) ∧ (¬ op.toInt = 90 → ((op.toInt = 95 → w_move_J132 Q U op y x) ∧ (¬ op.toInt = 95 → w_move_J137 Q U op y x)))) := by
  have p1 := fun (t : Int32) (b : AS) (hb : 0 ≤ (aT b).toInt ∧ (aT b).toInt < 28) => t_push (t := t) (a := b) hb
  refine ⟨fun c => ?_, fun c => ⟨fun c2 => ?_, fun c2 => ?_⟩⟩
  · -- 90: y x y
    have a1 := p1 y a ⟨ht.1, by omega⟩
    have a2 := p1 x (aPush y a) ⟨by omega, by omega⟩
    unfold w_move_J132
    refine ⟨_, fn_push h ⟨ht.1, by omega⟩, fun V hV => ?_⟩
    unfold w_move_J137
    refine ⟨fun q => by omega, fun _ => ⟨fun _ => ?_, fun q => absurd c q⟩⟩
    unfold w_move_J155
    refine ⟨_, fn_push hV ⟨by omega, by omega⟩, fun W hW => ?_⟩
    unfold w_move_J160
    refine ⟨fun q => by omega, fun _ => ⟨_, fn_push hW ⟨by omega, by omega⟩, fun X hX => ?_⟩⟩
    unfold w_move_J171 w_move_J182
    refine ⟨fun q => by omega, fun _ => ⟨fun q => by omega, fun _ => ⟨fun q => by omega, fun _ => hQ X ?_⟩⟩⟩
    have n92 : ¬ op.toInt = 92 := by omega
    have n95 : ¬ op.toInt = 95 := by omega
    have n89 : ¬ op.toInt = 89 := by omega
    unfold aMv1
    simp only [if_pos c, if_neg n92, if_neg n95, if_neg n89]
    exact hX
  · -- 95: y x
    have a1 := p1 y a ⟨ht.1, by omega⟩
    unfold w_move_J132
    refine ⟨_, fn_push h ⟨ht.1, by omega⟩, fun V hV => ?_⟩
    unfold w_move_J137
    refine ⟨fun q => by omega, fun _ => ⟨fun q => absurd q c, fun _ => ⟨fun _ => ?_, fun q => absurd c2 q⟩⟩⟩
    unfold w_move_J155
    refine ⟨_, fn_push hV ⟨by omega, by omega⟩, fun W hW => ?_⟩
    unfold w_move_J160
    refine ⟨fun _ => ?_, fun q => absurd c2 q⟩
    unfold w_move_J171 w_move_J182
    refine ⟨fun q => by omega, fun _ => ⟨fun q => by omega, fun _ => ⟨fun q => by omega, fun _ => hQ W ?_⟩⟩⟩
    have n92 : ¬ op.toInt = 92 := by omega
    have n89 : ¬ op.toInt = 89 := by omega
    unfold aMv1
    simp only [if_neg c, if_neg n92, if_pos c2, if_neg n89]
    exact hW
  · by_cases z : op.toInt = 92
    · -- 92: x y x y
      have a1 := p1 x a ⟨ht.1, by omega⟩
      have a2 := p1 y (aPush x a) ⟨by omega, by omega⟩
      have a3 := p1 x (aPush y (aPush x a)) ⟨by omega, by omega⟩
      unfold w_move_J137
      refine ⟨fun _ => ?_, fun q => absurd z q⟩
      unfold w_move_J155
      refine ⟨_, fn_push h ⟨ht.1, by omega⟩, fun V hV => ?_⟩
      unfold w_move_J160
      refine ⟨fun q => absurd q c2, fun _ => ⟨_, fn_push hV ⟨by omega, by omega⟩, fun W hW => ?_⟩⟩
      unfold w_move_J171
      refine ⟨fun _ => ⟨_, fn_push hW ⟨by omega, by omega⟩, fun X hX => ?_⟩, fun q => absurd z q⟩
      unfold w_move_J182
      refine ⟨fun _ => ?_, fun q => absurd z q⟩
      unfold w_move_J194
      refine ⟨_, fn_push hX ⟨by omega, by omega⟩, fun Y hY => hQ Y ?_⟩
      unfold aMv1
      simp only [if_neg c, if_neg c2, if_pos z]
      exact hY
    · -- 89: y y
      have z89 : op.toInt = 89 := by omega
      have a1 := p1 y a ⟨ht.1, by omega⟩
      unfold w_move_J137
      refine ⟨fun q => absurd q z, fun _ => ⟨fun q => absurd q c, fun _ => ⟨fun q => absurd q c2, fun _ => ?_⟩⟩⟩
      unfold w_move_J160
      refine ⟨fun q => absurd q c2, fun _ => ⟨_, fn_push h ⟨ht.1, by omega⟩, fun V hV => ?_⟩⟩
      unfold w_move_J171
      refine ⟨fun q => absurd q z, fun _ => ?_⟩
      unfold w_move_J182
      refine ⟨fun q => absurd q z, fun _ => ⟨fun _ => ?_, fun q => absurd z89 q⟩⟩
      unfold w_move_J194
      refine ⟨_, fn_push hV ⟨by omega, by omega⟩, fun W hW => hQ W ?_⟩
      unfold aMv1
      simp only [if_neg c, if_neg c2, if_neg z, if_pos z89]
      exact hW
theorem fn_move {S U : MS} {a : AS} {op : Int32} {Q : MS → Prop} (h : PA S a U) (ho : op.toInt = 87 ∨ op.toInt = 88 ∨ op.toInt = 89 ∨ op.toInt = 90 ∨ op.toInt = 92 ∨ op.toInt = 95) (ht : (f_moved S op).toInt ≤ (aT a).toInt ∧ (aT a).toInt ≤ 24) (hQ : ∀ u, PA S (aMove op a) u → Q u) : w_move U op Q := by
  have mv1 : op.toInt = 87 ∨ op.toInt = 89 → ∀ S : MS, (f_moved S op).toInt = 1 := fun q S => by
    unfold f_moved f_moved_J12 f_moved_J40
    rcases q with q | q
    · rw [if_pos q]; rfl
    · rw [if_neg (by omega), if_pos q]; rfl
  have mv2 : ¬ (op.toInt = 87 ∨ op.toInt = 89) → ∀ S : MS, (f_moved S op).toInt = 2 := fun q S => by
    unfold f_moved f_moved_J12 f_moved_J40
    rw [if_neg (by omega), if_neg (by omega)]
    by_cases z1 : op.toInt = 88
    · rw [if_pos z1]; rfl
    · rw [if_neg z1]
      by_cases z2 : op.toInt = 90
      · rw [if_pos z2]; rfl
      · rw [if_neg z2]
        by_cases z3 : op.toInt = 92
        · rw [if_pos z3]; rfl
        · rw [if_neg z3, if_pos (by omega)]; rfl
  -- behind the pulls
  have s21 : ∀ (x : Int32) (a1 : AS) (V : MS), PA S a1 V → x = (if op.toInt = 87 then 1 else if op.toInt = 89 then 1 else aTop (aPull a)) → a1 = (if op.toInt = 87 then aPull a else if op.toInt = 89 then aPull a else aPull (aPull a)) → (0 ≤ (aT a1).toInt ∧ (aT a1).toInt ≤ 24) → w_move_J21 Q V x op (aTop a) := fun x a1 V hV ex ea1 hT => by
    -- the end
    have s107 : ∀ (w x2 y2 : Int32) (g : Int32) (W : MS), PA S (aNeed g a1) W → (∀ u, PA S (if op.toInt = 87 then aNeed g a1 else if op.toInt = 88 then aNeed g a1 else aMv1 op y2 x2 (aNeed g a1)) u → Q u) → w_move_J107 Q W op y2 x2 := fun w x2 y2 g W hW hq => by
      unfold w_move_J107
      refine ⟨fun c => hq W (by rw [if_pos c]; exact hW), fun c => ⟨fun c2 => hq W (by rw [if_neg c, if_pos c2]; exact hW), fun c2 => ?_⟩⟩
      exact fn_mv1 hW (by omega) hT (fun u hu => hq u (by rw [if_neg c, if_neg c2]; exact hu))
    have s76 : ∀ (w g : Int32), w = (if (op.toInt = 88 ∨ op.toInt = 92) ∧ x.toInt = 2 ∧ (aTop a).toInt = 3 then 1 else 0) → g = (if w.toInt = 0 then (if (isOn x).toInt = 0 then 0 else if (isOn (aTop a)).toInt = 0 then 0 else 1) else 1) → w_move_J76 Q V g op (aTop a) x w := fun w g ew eg => by
      have fin : ∀ W : MS, PA S (aNeed g a1) W → ∀ x2 y2 : Int32, x2 = (if w.toInt = 0 then (if (isOn x).toInt = 0 then 0 else x) else x) → y2 = (if w.toInt = 0 then (if (isOn (aTop a)).toInt = 0 then 0 else aTop a) else aTop a) → w_move_J107 Q W op y2 x2 := fun W hW x2 y2 ex2 ey2 => s107 w x2 y2 g W hW (fun u hu => hQ u (by
        unfold aMove
        simp only
        rw [← ex, ← ea1, ← ew, ← eg, ← ex2, ← ey2]
        exact hu))
      unfold w_move_J76
      refine ⟨_, fn_need hV, fun W hW => ?_⟩
      have s93 : ∀ x2 : Int32, x2 = (if w.toInt = 0 then (if (isOn x).toInt = 0 then 0 else x) else x) → w_move_J93 Q W op (aTop a) x2 w := fun x2 ex2 => by
        unfold w_move_J93
        refine ⟨fun c => ⟨(f_on (S := W)).2, ?_⟩, fun c => fin W hW x2 _ ex2 (by rw [if_neg c])⟩
        rw [(f_on (S := W)).1]
        exact ⟨fun q => fin W hW x2 0 ex2 (by rw [if_pos c, if_pos q]), fun q => fin W hW x2 _ ex2 (by rw [if_pos c, if_neg q])⟩
      refine ⟨fun c => ⟨(f_on (S := W)).2, ?_⟩, fun c => s93 x (by rw [if_neg c])⟩
      rw [(f_on (S := W)).1]
      exact ⟨fun q => s93 0 (by rw [if_pos c, if_pos q]), fun q => s93 x (by rw [if_pos c, if_neg q])⟩
    have s48 : ¬ ((op.toInt = 88 ∨ op.toInt = 92) ∧ x.toInt = 2 ∧ (aTop a).toInt = 3) → w_move_J48 Q V op (aTop a) x := fun q => by
      have e0 : (0 : Int32) = (if (op.toInt = 88 ∨ op.toInt = 92) ∧ x.toInt = 2 ∧ (aTop a).toInt = 3 then 1 else 0) := by rw [if_neg q]
      unfold w_move_J48 w_move_J49 w_move_J75 w_move_J71
      refine ⟨fun _ => ⟨(f_on (S := V)).2, ?_⟩, fun z => absurd rfl z⟩
      rw [(f_on (S := V)).1]
      refine ⟨fun z => s76 0 0 e0 (by rw [if_pos (by rfl), if_pos z]), fun z => ⟨(f_on (S := V)).2, ?_⟩⟩
      rw [(f_on (S := V)).1]
      exact ⟨fun z2 => s76 0 0 e0 (by rw [if_pos (by rfl), if_neg z, if_pos z2]), fun z2 => s76 0 1 e0 (by rw [if_pos (by rfl), if_neg z, if_neg z2])⟩
    have s34 : (op.toInt = 88 ∨ op.toInt = 92) → w_move_J34 Q V op (aTop a) x := fun q => by
      unfold w_move_J34
      refine ⟨fun c => ⟨fun c2 => ?_, fun c2 => s48 (fun z => c2 z.2.2)⟩, fun c => s48 (fun z => c z.2.1)⟩
      have e1 : (1 : Int32) = (if (op.toInt = 88 ∨ op.toInt = 92) ∧ x.toInt = 2 ∧ (aTop a).toInt = 3 then 1 else 0) := by rw [if_pos ⟨q, c, c2⟩]
      unfold w_move_J49 w_move_J71
      exact ⟨fun z => absurd z (by decide), fun _ => s76 1 1 e1 (by rw [if_neg (by decide)])⟩
    unfold w_move_J21
    exact ⟨fun c => s34 (Or.inl c), fun c => ⟨fun c2 => s34 (Or.inr c2), fun c2 => s48 (fun z => by rcases z.1 with w | w; exact c w; exact c2 w)⟩⟩
  have m0 : 1 ≤ (aT a).toInt := by
    by_cases z : op.toInt = 87 ∨ op.toInt = 89
    · have := mv1 z S; omega
    · have := mv2 z S; omega
  have e : (aT (aPull a)).toInt = (aT a).toInt - 1 := by
    show (aT a - (1 : Int32)).toInt = _
    rw [t_sub (by rw [li_1]; omega), li_1]
  unfold w_move
  refine ⟨_, fn_pull h ⟨m0, by omega⟩, ?_⟩
  rintro r V ⟨er, hV⟩
  subst er
  refine ⟨(b_mv (S := V)).2.2.2.2.1, fun c => ?_, fun c => ?_⟩
  · have z : ¬ (op.toInt = 87 ∨ op.toInt = 89) := fun z => by have := mv1 z V; omega
    have m2 := mv2 z S
    refine ⟨_, fn_pull hV ⟨by omega, by omega⟩, ?_⟩
    rintro r2 W ⟨er2, hW⟩
    subst er2
    have e2 : (aT (aPull (aPull a))).toInt = (aT a).toInt - 2 := by
      show (aT (aPull a) - (1 : Int32)).toInt = _
      rw [t_sub (by rw [li_1]; omega), li_1, e]
      omega
    exact s21 _ _ W hW (by rw [if_neg (by omega), if_neg (by omega)]) (by rw [if_neg (by omega), if_neg (by omega)]) ⟨by omega, by omega⟩
  · have z : op.toInt = 87 ∨ op.toInt = 89 := by
      by_cases z : op.toInt = 87 ∨ op.toInt = 89
      · exact z
      · exact absurd (mv2 z V) c
    refine s21 1 _ V hV ?_ ?_ ⟨by omega, by omega⟩
    · rcases z with z | z
      · rw [if_pos z]
      · rw [if_neg (by omega), if_pos z]
    · rcases z with z | z
      · rw [if_pos z]
      · rw [if_neg (by omega), if_pos z]
