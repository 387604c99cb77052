def NTC : Nat := 7
def sLc : List Nat := [4, 11, 9, 10, 9, 1, 4]
def sBc : List (List Int32) := [[67, 111, 100, 101], [68, 105, 118, 105, 100, 101, 69, 114, 114, 111, 114], [78, 117, 108, 108, 69, 114, 114, 111, 114], [73, 110, 100, 101, 120, 69, 114, 114, 111, 114], [83, 105, 122, 101, 69, 114, 114, 111, 114], [74], [67, 111, 100, 101]]
def stMG : List Int32 := [202, 254, 186, 190, 0, 0, 0, 49]
def stLN : List Int32 := [1, 1, 1, 1, 1, 1, 1, 1, 1, 1, 1, 0, 0, 0, 0, 0, 2, 3, 2, 3, 3, 2, 2, 0, 0, 2, 1, 1, 1, 1, 1, 1, 1, 1, 0, 0, 0, 0, 0, 0, 0, 0, 1, 1, 1, 1, 1, 0, 0, 0, 0, 0, 0, 0, 2, 2, 0, 0, 2, 1, 1, 1, 1, 1, 1, 1, 1, 0, 0, 0, 0, 0, 0, 0, 0, 1, 1, 1, 1, 1, 0, 0, 0, 0, 0, 0, 0, 1, 1, 1, 1, 0, 1, 0, 0, 1, 1, 1, 0, 0, 1, 1, 0, 0, 1, 1, 0, 0, 1, 1, 0, 0, 1, 1, 0, 0, 1, 1, 0, 0, 1, 1, 1, 1, 1, 1, 1, 1, 1, 1, 1, 1, 3, 1, 0, 0, 1, 0, 0, 0, 0, 0, 0, 0, 0, 1, 1, 1, 1, 0, 0, 0, 0, 3, 3, 3, 3, 3, 3, 3, 3, 3, 3, 3, 3, 3, 3, 3, 0, 0, 0, 0, 1, 1, 0, 0, 1, 1, 3, 3, 0, 0, 0, 0, 3, 0, 0, 0, 0, 0, 1, 1, 0, 0, 0, 0, 0, 0, 3, 3, 5, 0]
def stTK : List Int32 := [0, 0, 0, 0, 0, 0, 0, 0, 0, 0, 0, 0, 0, 0, 0, 0, 0, 0, 0, 0, 0, 0, 0, 0, 0, 0, 0, 0, 0, 0, 0, 0, 0, 0, 0, 0, 0, 0, 0, 0, 0, 0, 0, 0, 0, 0, 49, 0, 0, 0, 0, 0, 0, 0, 1, 2, 0, 0, 4, 0, 0, 0, 0, 0, 0, 0, 0, 0, 0, 0, 0, 0, 0, 0, 0, 0, 0, 0, 0, 785, 0, 0, 0, 0, 0, 0, 0, 6, 102, 6, 102, 0, 102, 0, 0, 102, 17, 34, 0, 0, 17, 34, 0, 0, 17, 34, 0, 0, 17, 34, 0, 0, 17, 34, 0, 0, 1, 2, 0, 0, 17, 33, 17, 33, 17, 33, 17, 34, 17, 34, 17, 34, 0, 1, 0, 0, 2, 0, 0, 0, 0, 0, 0, 0, 0, 1, 1, 1, 34, 0, 0, 0, 0, 1, 1, 1, 1, 1, 1, 17, 17, 17, 17, 17, 17, 68, 68, 0, 0, 0, 1, 1, 1, 2, 0, 0, 3, 0, 0, 0, 0, 0, 0, 0, 0, 0, 0, 0, 1, 0, 3, 5, 0, 0, 0, 0, 0, 0, 4, 4, 0, 0]
def stGV : List Int32 := [0, 7, 0, 0, 0, 0, 0, 0, 0, 0, 0, 0, 0, 0, 0, 0, 0, 1, 0, 0, 2, 1, 2, 0, 0, 4, 0, 0, 0, 0, 0, 0, 0, 0, 0, 0, 0, 0, 0, 0, 0, 0, 0, 0, 0, 0, 1, 0, 0, 0, 0, 0, 0, 0, 0, 0, 0, 0, 0, 0, 0, 0, 0, 0, 0, 0, 0, 0, 0, 0, 0, 0, 0, 0, 0, 0, 0, 0, 0, 0, 0, 0, 0, 0, 0, 0, 0, 0, 0, 0, 0, 0, 0, 0, 0, 0, 1, 2, 0, 0, 1, 2, 0, 0, 1, 2, 0, 0, 1, 2, 0, 0, 1, 2, 0, 0, 1, 2, 0, 0, 1, 2, 1, 2, 1, 2, 1, 2, 1, 2, 1, 2, 0, 2, 0, 0, 1, 0, 0, 0, 0, 0, 0, 0, 0, 1, 1, 1, 1, 0, 0, 0, 0, 0, 0, 0, 0, 0, 0, 0, 0, 0, 0, 0, 0, 0, 0, 0, 0, 0, 0, 0, 0, 0, 0, 0, 0, 0, 0, 0, 0, 0, 0, 0, 0, 0, 0, 0, 3, 0, 1, 0, 0, 0, 0, 0, 0, 0, 0, 0, 0, 0]
def etX0 : List Nat := [101, 0]
def etX1 : List Nat := [44, 102, 301, 302, 103, 0, 0, 0, 49, 47]
def etX2 : List Nat := [46, 0, 0, 0, 0, 0, 0, 201, 0, 0, 0, 0]
def etX3 : List Nat := [47, 0, 202, 203, 204, 205, 206, 207, 303, 401, 0, 208, 209, 210, 211, 212]
def etX4 : List Nat := [213, 214, 304, 49, 47, 0, 0, 0]
def etX5 : List Nat := [49, 402, 215, 0, 216, 0, 403, 0, 404, 405, 217, 0, 47, 0, 0, 0, 0, 0, 0, 0]
def etX7 : List Nat := [101, 0, 0, 0, 218, 0, 0, 0, 0, 219, 220, 221, 0, 0, 0, 0, 0]
def etX8 : List Nat := [222, 406, 0, 223, 0, 224, 225, 226, 227, 0, 0, 0, 104, 407, 408]
def etX9 : List Nat := [47, 228, 305, 306, 229, 230]
def etX10 : List Nat := [105, 0, 0, 0, 0, 231, 232, 233, 0, 234, 235, 236, 237, 6, 0, 0, 0, 0]
def etX11 : List Nat := [40, 40, 40, 238, 239, 0, 0, 49, 0, 0, 240, 241, 242, 243, 44, 47, 244, 245]
def etX12 : List Nat := [40, 40, 40, 5, 42, 41, 50, 45, 43, 48, 0, 0, 0, 0, 0, 0, 0, 0]
def etgC (t j : Nat) : Nat := if t = 40 then etX0.getD j 0 else if t = 41 then etX1.getD j 0 else if t = 42 then etX2.getD j 0 else if t = 43 then etX3.getD j 0 else if t = 44 then etX4.getD j 0 else if t = 45 then etX5.getD j 0 else if t = 46 then etX7.getD j 0 else if t = 47 then etX8.getD j 0 else if t = 48 then etX9.getD j 0 else if t = 49 then etX10.getD j 0 else if t = 50 then etX11.getD j 0 else if t = 51 then etX12.getD j 0 else if t = 5 then 49 else if t = 6 then 47 else 0
def otX8 : List Nat := [1, 2, 0, 3, 0, 4, 5, 6, 7, 0, 0, 0, 0, 0, 0]
def otX10 : List Nat := [1, 0, 0, 0, 0, 2, 3, 4, 0, 5, 6, 7, 8, 9, 0, 0, 0, 0]
def otgC (t j : Nat) : Nat := if t = 47 then otX8.getD j 0 else if t = 49 then otX10.getD j 0 else 0
def ztgC (t j : Nat) : Bool := (Nat.blt 300 t && Nat.blt t 400) || (t == 41 && j == 6) || (t == 41 && j == 7) || (t == 44 && j == 6) || (t == 49 && j == 15) || (t == 50 && j == 6)
def finC : List (Nat × Nat × Nat × Nat × Nat) := [(16, 0, 17, 44, 0), (16, 4, 24, 103, 48), (8, 0, 9, 46, 0), (8, 7, 15, 201, 1201), (44, 1, 45, 402, 24), (44, 6, 48, 403, 8), (44, 10, 51, 217, 180), (9, 4, 11, 218, 500), (9, 9, 12, 219, 48), (9, 10, 13, 220, 24), (9, 11, 14, 221, 24), (66, 1, 75, 228, 12), (25, 0, 26, 40, 0), (25, 1, 28, 40, 0), (25, 2, 30, 40, 0), (25, 3, 32, 238, 500), (25, 4, 33, 239, 500), (25, 10, 34, 240, 24), (25, 11, 35, 241, 24), (25, 12, 36, 242, 24), (25, 13, 37, 243, 24), (25, 14, 38, 44, 0), (0, 0, 1, 40, 0), (0, 1, 3, 40, 0), (0, 2, 5, 40, 0), (0, 3, 7, 5, 12), (0, 4, 8, 42, 0), (0, 5, 16, 41, 0), (0, 6, 25, 50, 0), (0, 7, 44, 45, 0), (0, 8, 52, 43, 0), (0, 9, 66, 48, 0)]
theorem finC_0 : (16, 0, 17, 44, 0) ∈ finC := List.mem_of_getElem? (i := 0) rfl
theorem finC_1 : (16, 4, 24, 103, 48) ∈ finC := List.mem_of_getElem? (i := 1) rfl
theorem finC_2 : (8, 0, 9, 46, 0) ∈ finC := List.mem_of_getElem? (i := 2) rfl
theorem finC_3 : (8, 7, 15, 201, 1201) ∈ finC := List.mem_of_getElem? (i := 3) rfl
theorem finC_4 : (44, 1, 45, 402, 24) ∈ finC := List.mem_of_getElem? (i := 4) rfl
theorem finC_5 : (44, 6, 48, 403, 8) ∈ finC := List.mem_of_getElem? (i := 5) rfl
theorem finC_6 : (44, 10, 51, 217, 180) ∈ finC := List.mem_of_getElem? (i := 6) rfl
theorem finC_7 : (9, 4, 11, 218, 500) ∈ finC := List.mem_of_getElem? (i := 7) rfl
theorem finC_8 : (9, 9, 12, 219, 48) ∈ finC := List.mem_of_getElem? (i := 8) rfl
theorem finC_9 : (9, 10, 13, 220, 24) ∈ finC := List.mem_of_getElem? (i := 9) rfl
theorem finC_10 : (9, 11, 14, 221, 24) ∈ finC := List.mem_of_getElem? (i := 10) rfl
theorem finC_11 : (66, 1, 75, 228, 12) ∈ finC := List.mem_of_getElem? (i := 11) rfl
theorem finC_12 : (25, 0, 26, 40, 0) ∈ finC := List.mem_of_getElem? (i := 12) rfl
theorem finC_13 : (25, 1, 28, 40, 0) ∈ finC := List.mem_of_getElem? (i := 13) rfl
theorem finC_14 : (25, 2, 30, 40, 0) ∈ finC := List.mem_of_getElem? (i := 14) rfl
theorem finC_15 : (25, 3, 32, 238, 500) ∈ finC := List.mem_of_getElem? (i := 15) rfl
theorem finC_16 : (25, 4, 33, 239, 500) ∈ finC := List.mem_of_getElem? (i := 16) rfl
theorem finC_17 : (25, 10, 34, 240, 24) ∈ finC := List.mem_of_getElem? (i := 17) rfl
theorem finC_18 : (25, 11, 35, 241, 24) ∈ finC := List.mem_of_getElem? (i := 18) rfl
theorem finC_19 : (25, 12, 36, 242, 24) ∈ finC := List.mem_of_getElem? (i := 19) rfl
theorem finC_20 : (25, 13, 37, 243, 24) ∈ finC := List.mem_of_getElem? (i := 20) rfl
theorem finC_21 : (25, 14, 38, 44, 0) ∈ finC := List.mem_of_getElem? (i := 21) rfl
theorem finC_22 : (0, 0, 1, 40, 0) ∈ finC := List.mem_of_getElem? (i := 22) rfl
theorem finC_23 : (0, 1, 3, 40, 0) ∈ finC := List.mem_of_getElem? (i := 23) rfl
theorem finC_24 : (0, 2, 5, 40, 0) ∈ finC := List.mem_of_getElem? (i := 24) rfl
theorem finC_25 : (0, 3, 7, 5, 12) ∈ finC := List.mem_of_getElem? (i := 25) rfl
theorem finC_26 : (0, 4, 8, 42, 0) ∈ finC := List.mem_of_getElem? (i := 26) rfl
theorem finC_27 : (0, 5, 16, 41, 0) ∈ finC := List.mem_of_getElem? (i := 27) rfl
theorem finC_28 : (0, 6, 25, 50, 0) ∈ finC := List.mem_of_getElem? (i := 28) rfl
theorem finC_29 : (0, 7, 44, 45, 0) ∈ finC := List.mem_of_getElem? (i := 29) rfl
theorem finC_30 : (0, 8, 52, 43, 0) ∈ finC := List.mem_of_getElem? (i := 30) rfl
theorem finC_31 : (0, 9, 66, 48, 0) ∈ finC := List.mem_of_getElem? (i := 31) rfl
theorem finC_ok : ∀ q ∈ finC, q.2.2.2.1 ≠ 0 ∧ q.2.2.2.1 ≠ 12 ∧ q.2.2.2.1 ≠ 22 := by decide
def ownC : List Nat := [41, 42, 45, 46, 48, 50, 51]
theorem finC_own : ∀ q ∈ finC, q.1 = 0 ∨ ∃ p ∈ finC, p.2.2.1 = q.1 ∧ p.2.2.2.1 ∈ ownC := by decide
def ptrC : List (Nat × Nat) := [(1, 0), (3, 0), (5, 0), (9, 0), (16, 1), (16, 2), (16, 3), (17, 0), (17, 1), (17, 2), (25, 16), (25, 17), (26, 0), (28, 0), (30, 0), (38, 0), (38, 1), (38, 2), (44, 2), (44, 4), (44, 8), (44, 9), (52, 2), (52, 3), (52, 4), (52, 5), (52, 6), (52, 7), (52, 8), (52, 9), (52, 11), (52, 12), (52, 13), (52, 14), (52, 15), (66, 2), (66, 3), (66, 4), (66, 5), (66, 0)]
theorem ptrC_0 : (1, 0) ∈ ptrC := List.mem_of_getElem? (i := 0) rfl
theorem ptrC_1 : (3, 0) ∈ ptrC := List.mem_of_getElem? (i := 1) rfl
theorem ptrC_2 : (5, 0) ∈ ptrC := List.mem_of_getElem? (i := 2) rfl
theorem ptrC_3 : (9, 0) ∈ ptrC := List.mem_of_getElem? (i := 3) rfl
theorem ptrC_4 : (16, 1) ∈ ptrC := List.mem_of_getElem? (i := 4) rfl
theorem ptrC_5 : (16, 2) ∈ ptrC := List.mem_of_getElem? (i := 5) rfl
theorem ptrC_6 : (16, 3) ∈ ptrC := List.mem_of_getElem? (i := 6) rfl
theorem ptrC_7 : (17, 0) ∈ ptrC := List.mem_of_getElem? (i := 7) rfl
theorem ptrC_8 : (17, 1) ∈ ptrC := List.mem_of_getElem? (i := 8) rfl
theorem ptrC_9 : (17, 2) ∈ ptrC := List.mem_of_getElem? (i := 9) rfl
theorem ptrC_10 : (25, 16) ∈ ptrC := List.mem_of_getElem? (i := 10) rfl
theorem ptrC_11 : (25, 17) ∈ ptrC := List.mem_of_getElem? (i := 11) rfl
theorem ptrC_12 : (26, 0) ∈ ptrC := List.mem_of_getElem? (i := 12) rfl
theorem ptrC_13 : (28, 0) ∈ ptrC := List.mem_of_getElem? (i := 13) rfl
theorem ptrC_14 : (30, 0) ∈ ptrC := List.mem_of_getElem? (i := 14) rfl
theorem ptrC_15 : (38, 0) ∈ ptrC := List.mem_of_getElem? (i := 15) rfl
theorem ptrC_16 : (38, 1) ∈ ptrC := List.mem_of_getElem? (i := 16) rfl
theorem ptrC_17 : (38, 2) ∈ ptrC := List.mem_of_getElem? (i := 17) rfl
theorem ptrC_18 : (44, 2) ∈ ptrC := List.mem_of_getElem? (i := 18) rfl
theorem ptrC_19 : (44, 4) ∈ ptrC := List.mem_of_getElem? (i := 19) rfl
theorem ptrC_20 : (44, 8) ∈ ptrC := List.mem_of_getElem? (i := 20) rfl
theorem ptrC_21 : (44, 9) ∈ ptrC := List.mem_of_getElem? (i := 21) rfl
theorem ptrC_22 : (52, 2) ∈ ptrC := List.mem_of_getElem? (i := 22) rfl
theorem ptrC_23 : (52, 3) ∈ ptrC := List.mem_of_getElem? (i := 23) rfl
theorem ptrC_24 : (52, 4) ∈ ptrC := List.mem_of_getElem? (i := 24) rfl
theorem ptrC_25 : (52, 5) ∈ ptrC := List.mem_of_getElem? (i := 25) rfl
theorem ptrC_26 : (52, 6) ∈ ptrC := List.mem_of_getElem? (i := 26) rfl
theorem ptrC_27 : (52, 7) ∈ ptrC := List.mem_of_getElem? (i := 27) rfl
theorem ptrC_28 : (52, 8) ∈ ptrC := List.mem_of_getElem? (i := 28) rfl
theorem ptrC_29 : (52, 9) ∈ ptrC := List.mem_of_getElem? (i := 29) rfl
theorem ptrC_30 : (52, 11) ∈ ptrC := List.mem_of_getElem? (i := 30) rfl
theorem ptrC_31 : (52, 12) ∈ ptrC := List.mem_of_getElem? (i := 31) rfl
theorem ptrC_32 : (52, 13) ∈ ptrC := List.mem_of_getElem? (i := 32) rfl
theorem ptrC_33 : (52, 14) ∈ ptrC := List.mem_of_getElem? (i := 33) rfl
theorem ptrC_34 : (52, 15) ∈ ptrC := List.mem_of_getElem? (i := 34) rfl
theorem ptrC_35 : (66, 2) ∈ ptrC := List.mem_of_getElem? (i := 35) rfl
theorem ptrC_36 : (66, 3) ∈ ptrC := List.mem_of_getElem? (i := 36) rfl
theorem ptrC_37 : (66, 4) ∈ ptrC := List.mem_of_getElem? (i := 37) rfl
theorem ptrC_38 : (66, 5) ∈ ptrC := List.mem_of_getElem? (i := 38) rfl
theorem ptrC_39 : (66, 0) ∈ ptrC := List.mem_of_getElem? (i := 39) rfl
/-- what holds of the kinds: the fixed rows; where references lead; bytes are bytes, truth values are such -/
def wfC (S : MS) : Prop := qT S 0 = 51 ∧ (∀ q ∈ finC, qR S q.1 q.2.1 = some q.2.2.1 ∧ qT S q.2.2.1 = q.2.2.2.1 ∧ qN S q.2.2.1 = q.2.2.2.2) ∧ (∀ a j b : Nat, qR S a j = some b → qT S b = etgC (qT S a) j ∧ etgC (qT S a) j ≠ 0 ∧ (otgC (qT S a) j ≠ 0 → b = a + otgC (qT S a) j)) ∧ (∀ b : Nat, qT S b ≠ 0 → qT S b ≠ 12 → qT S b ≠ 22 → b < qn S) ∧ (∀ b : Nat, qT S b = 12 → ∃ i : Nat, i < NTC ∧ b = TXB + 2 * i) ∧ (∀ i : Nat, i < NTC → qT S (TXB + 2 * i) = 12 ∧ qT S (TXB + 2 * i + 1) = 22 ∧ qN S (TXB + 2 * i + 1) = sLc.getD i 0 ∧ ∀ k : Nat, qI S (TXB + 2 * i + 1) k = (sBc.getD i []).getD k 0) ∧ qn S ≤ TXB ∧ (∀ b : Nat, qT S b = 22 → TXB ≤ b) ∧ (∀ b i : Nat, 100 < qT S b ∧ qT S b < 200 → fits .byte (.int (qI S b i)) = true) ∧ (∀ b j : Nat, ztgC (qT S b) j = true → qI S b j = 0 ∨ qI S b j = 1) ∧ (∀ b : Nat, qT S b ≠ 0 → qN S b ≤ 8388608) ∧ ∀ p ∈ ptrC, qR S p.1 p.2 ≠ none
theorem wfC.rf3 {S : MS} (h : wfC S) : ∀ a j b : Nat, qR S a j = some b → qT S b = etgC (qT S a) j ∧ etgC (qT S a) j ≠ 0 ∧ (otgC (qT S a) j ≠ 0 → b = a + otgC (qT S a) j) := h.2.2.1
/-- a Row's rows, a Unit's rows lie behind it -/
theorem wfC.off {S : MS} {a j b t o : Nat} (h : wfC S) (e : qR S a j = some b) (ea : qT S a = t) (eo : otgC t j = o) (h0 : o ≠ 0) : b = a + o := by
  have := (h.rf3 a j b e).2.2
  rw [ea, eo] at this
  exact this h0
theorem wfC.lt4 {S : MS} (h : wfC S) : ∀ b : Nat, qT S b ≠ 0 → qT S b ≠ 12 → qT S b ≠ 22 → b < qn S := h.2.2.2.1
theorem wfC.t12 {S : MS} (h : wfC S) : ∀ b : Nat, qT S b = 12 → ∃ i : Nat, i < NTC ∧ b = TXB + 2 * i := h.2.2.2.2.1
theorem wfC.tx6 {S : MS} (h : wfC S) : ∀ i : Nat, i < NTC → qT S (TXB + 2 * i) = 12 ∧ qT S (TXB + 2 * i + 1) = 22 ∧ qN S (TXB + 2 * i + 1) = sLc.getD i 0 ∧ ∀ k : Nat, qI S (TXB + 2 * i + 1) k = (sBc.getD i []).getD k 0 := h.2.2.2.2.2.1
theorem wfC.t22 {S : MS} (h : wfC S) : ∀ b : Nat, qT S b = 22 → TXB ≤ b := h.2.2.2.2.2.2.2.1
theorem wfC.by9 {S : MS} (h : wfC S) : ∀ b i : Nat, 100 < qT S b ∧ qT S b < 200 → fits .byte (.int (qI S b i)) = true := h.2.2.2.2.2.2.2.2.1
theorem wfC.bz {S : MS} (h : wfC S) : ∀ b j : Nat, ztgC (qT S b) j = true → qI S b j = 0 ∨ qI S b j = 1 := h.2.2.2.2.2.2.2.2.2.1
theorem wfC.ln {S : MS} (h : wfC S) : ∀ b : Nat, qT S b ≠ 0 → qN S b ≤ 8388608 := h.2.2.2.2.2.2.2.2.2.2.1
theorem wfC.pt {S : MS} (h : wfC S) : ∀ p ∈ ptrC, qR S p.1 p.2 ≠ none := h.2.2.2.2.2.2.2.2.2.2.2
theorem wfC.ptr {S : MS} {o j : Nat} (h : wfC S) (hm : (o, j) ∈ ptrC) : qR S o j = some (qO S o j) := by
  have := h.pt _ hm
  unfold qO
  cases e : qR S o j with
  | none => exact absurd e this
  | some b => rfl
theorem wfC.len9 {S : MS} {b t : Nat} (h : wfC S) (e : qT S b = t) (h0 : t ≠ 0) : qN S b ≤ 8388608 := h.ln b (by rw [e]; exact h0)
theorem wfC.bit {S : MS} {b j t : Nat} (h : wfC S) (e : qT S b = t) (z : ztgC t j = true) : qI S b j = 0 ∨ qI S b j = 1 := h.bz b j (by rw [e]; exact z)
theorem zB {t j : Nat} (h : 100 < t ∧ t < 200) : ¬ ztgC t j = true := by
  have h1 : Nat.blt 300 t = false := by
    cases e : Nat.blt 300 t with
    | false => rfl
    | true => exact absurd (Nat.le_of_ble_eq_true e) (by omega)
  unfold ztgC; rw [h1]; simp; omega
theorem wfC.by {S : MS} {b t i : Nat} (h : wfC S) (e : qT S b = t) (ht : 100 < t ∧ t < 200) : fits .byte (.int (qI S b i)) = true := h.by9 b i (by rw [e]; exact ht)
theorem wfC.bit3 {S : MS} {b j t : Nat} (h : wfC S) (e : qT S b = t) (ht : 300 < t ∧ t < 400) : qI S b j = 0 ∨ qI S b j = 1 := h.bz b j (by
  have h1 : Nat.blt 300 t = true := Nat.ble_eq_true_of_le ht.1
  have h2 : Nat.blt t 400 = true := Nat.ble_eq_true_of_le ht.2
  rw [e]; unfold ztgC; rw [h1, h2]; rfl)
theorem wfC.lt {S : MS} {b t : Nat} (h : wfC S) (e : qT S b = t) (h0 : t ≠ 0) (h12 : t ≠ 12) (h22 : t ≠ 22) : b < qn S := h.lt4 b (by omega) (by omega) (by omega)
theorem wfC.ref {S : MS} {a j b t : Nat} (h : wfC S) (e : qR S a j = some b) (ea : qT S a = t) : qT S b = etgC t j := by rw [(h.rf3 a j b e).1, ea]
theorem wfC.putI {S : MS} {a j t : Nat} {v : Int32} (h : wfC S) (e : qT S a = t) (h22 : t ≠ 22) (h1 : 100 < t ∧ t < 200 → fits .byte (.int v) = true) (hz : ztgC t j = true → v = 0 ∨ v = 1) : wfC (wI S a j v) := by
  refine ⟨h.1, h.2.1, h.2.2.1, h.2.2.2.1, h.2.2.2.2.1, fun i hi => ?_, h.2.2.2.2.2.2.1, h.t22, fun b i eb => ?_, fun b i zb => ?_, h.ln, h.pt⟩
  · obtain ⟨q1, q2, q3, q4⟩ := h.tx6 i hi
    refine ⟨q1, q2, q3, fun k => ?_⟩
    rw [qI_wI, if_neg (fun q => h22 (by rw [← e, ← q.1, q2]))]
    exact q4 k
  · rw [qI_wI]
    by_cases c : b = a ∧ i = j
    · rw [if_pos c]
      exact h1 (by rw [← e, ← c.1]; exact eb)
    · rw [if_neg c]
      exact h.by9 b i eb
  · rw [qI_wI]
    by_cases c : b = a ∧ i = j
    · rw [if_pos c]
      refine hz ?_
      rw [← e, ← c.1, ← c.2]
      exact zb
    · rw [if_neg c]
      exact h.bz b i zb
theorem wfC.putC {S : MS} {a t : Nat} {f : Nat → Int32} (h : wfC S) (e : qT S a = t) (h22 : t ≠ 22) (h1 : 100 < t ∧ t < 200 → ∀ i, fits .byte (.int (f i)) = true) (hz : ∀ j, ztgC t j = true → f j = 0 ∨ f j = 1) : wfC (wC S a f) := by
  have es : qI (wC S a f) a = f := if_pos rfl
  have en : ∀ b, b ≠ a → qI (wC S a f) b = qI S b := fun b hb => if_neg hb
  refine ⟨h.1, h.2.1, h.2.2.1, h.2.2.2.1, h.2.2.2.2.1, fun i hi => ?_, h.2.2.2.2.2.2.1, h.t22, fun b i eb => ?_, fun b i zb => ?_, h.ln, h.pt⟩
  · obtain ⟨q1, q2, q3, q4⟩ := h.tx6 i hi
    refine ⟨q1, q2, q3, fun k => ?_⟩
    rw [en _ (fun q => h22 (by rw [← e, ← q, q2]))]
    exact q4 k
  · by_cases c : b = a
    · rw [c, es]
      exact h1 (by rw [← e, ← c]; exact eb) i
    · rw [en b c]
      exact h.by9 b i eb
  · by_cases c : b = a
    · rw [c, es]
      refine hz i ?_
      rw [← e, ← c]
      exact zb
    · rw [en b c]
      exact h.bz b i zb
theorem wfC.put {S : MS} {a j : Nat} {r : Option Nat} (h : wfC S) (hb : ∀ b, r = some b → qT S b = etgC (qT S a) j) (hn : ∀ q ∈ finC, ¬ (q.1 = a ∧ q.2.1 = j)) (hz : etgC (qT S a) j ≠ 0) (ho : ∀ b, r = some b → otgC (qT S a) j ≠ 0 → b = a + otgC (qT S a) j) (hp : (∃ p ∈ ptrC, p.1 = a ∧ p.2 = j) → r ≠ none) : wfC (wR S a j r) := by
  refine ⟨h.1, fun q hq => ⟨?_, (h.2.1 q hq).2⟩, fun a' j' b e => ?_, h.2.2.2.1, h.t12, h.tx6, h.2.2.2.2.2.2.1, h.t22, h.by9, h.bz, h.ln, fun p hpp => ?_⟩
  · rw [qR_wR, if_neg (fun z => hn q hq ⟨z.1, z.2⟩)]
    exact (h.2.1 q hq).1
  · rw [qR_wR] at e
    by_cases z : a' = a ∧ j' = j
    · rw [if_pos z] at e
      rw [z.1, z.2]
      exact ⟨hb b e, hz, ho b e⟩
    · rw [if_neg z] at e
      exact h.rf3 a' j' b e
  · rw [qR_wR]
    by_cases z : p.1 = a ∧ p.2 = j
    · rw [if_pos z]
      exact hp ⟨p, hpp, z.1, z.2⟩
    · rw [if_neg z]
      exact h.pt p hpp
theorem etg0 (j : Nat) : etgC 0 j = 0 := rfl
theorem wfC.pto {S : MS} (h : wfC S) : ∀ p ∈ ptrC, qT S p.1 ≠ 0 := by
  intro p hp e
  cases e2 : qR S p.1 p.2 with
  | none => exact h.pt p hp e2
  | some b => exact (h.rf3 _ _ _ e2).2.1 (by rw [e]; exact etg0 _)
/-- an object of a kind that owns no fixed row -/
theorem wfC.noown {S : MS} {a j t : Nat} (h : wfC S) (e : qT S a = t) (ht : t ∉ ownC) (h51 : t ≠ 51) : ∀ q ∈ finC, ¬ (q.1 = a ∧ q.2.1 = j) := by
  intro q hq z
  rcases finC_own q hq with h0 | ⟨p, hp, h1, h2⟩
  · refine h51 ?_
    rw [← e, ← z.1, h0]
    exact h.1
  · refine ht ?_
    rw [← e, ← z.1, ← h1, (h.2.1 p hp).2.1]
    exact h2
/-- a whole row of longs is new -/
def wL (S : MS) (h : Nat) (f : Nat → Int64) : MS := (S.1, fun a => if a = h then f else qJ S a, S.2.2)
theorem toI_len {n : Nat} (h : n ≤ 8388608) : (Int32.ofNat n).toInt = (n : Int) := nI_toInt (by omega)
theorem bit_or {x y : Int32} (h : x = 0 ∨ x = 1) (h' : y = 0 ∨ y = 1) : (x ||| y) = 0 ∨ (x ||| y) = 1 := by rcases h with rfl | rfl <;> rcases h' with rfl | rfl <;> decide
def KCC : Nat := 300000
def KSC : Nat := 3553400
theorem wfC.hd {S : MS} {b t : Nat} (h : wfC S) (e : qT S b = t) (h0 : t ≠ 0) (h22 : t ≠ 22) : b < qn S ∨ TXB ≤ b := by
  by_cases e12 : t = 12
  · obtain ⟨i, -, rfl⟩ := h.t12 b (by omega)
    exact Or.inr (by omega)
  · exact Or.inl (h.lt e h0 e12 h22)
theorem wfC.nx {S : MS} (h : wfC S) (hT : qn S < TXB) : qT S (qn S) = 0 := by
  by_cases e0 : qT S (qn S) = 0
  · exact e0
  · exfalso
    by_cases e12 : qT S (qn S) = 12
    · obtain ⟨i, -, h1⟩ := h.t12 _ e12
      omega
    · by_cases e22 : qT S (qn S) = 22
      · have := h.t22 _ e22; omega
      · exact absurd (h.lt4 _ e0 e12 e22) (Nat.lt_irrefl _)
theorem fit_0 : fits .byte (.int (0 : Int32)) = true := by decide
theorem wfC.own {S : MS} (h : wfC S) : ∀ q ∈ finC, qT S q.1 ≠ 0 := by
  intro q hq
  rcases finC_own q hq with h0 | ⟨p, hp, h1, -⟩
  · rw [h0, h.1]; decide
  · rw [← h1, (h.2.1 p hp).2.1]; exact (finC_ok p hp).1
theorem wfC.new {S : MS} {t n k : Nat} (h : wfC S) (hT : qn S < TXB) (ht : t ≠ 0 ∧ t ≠ 12 ∧ t ≠ 22) (hn : n ≤ 8388608) : wfC (wN S t n k) := by
  have z := h.nx hT
  have eT : ∀ a, a ≠ qn S → qT (wN S t n k) a = qT S a := fun a ha => if_neg ha
  have eN : ∀ a, a ≠ qn S → qN (wN S t n k) a = qN S a := fun a ha => if_neg ha
  have eI : ∀ a, a ≠ qn S → qI (wN S t n k) a = qI S a := fun a ha => if_neg ha
  have eR : ∀ a, a ≠ qn S → qR (wN S t n k) a = qR S a := fun a ha => if_neg ha
  have sT : qT (wN S t n k) (qn S) = t := if_pos rfl
  have sI : qI (wN S t n k) (qn S) = fun _ => 0 := if_pos rfl
  have sR : qR (wN S t n k) (qn S) = fun _ => none := if_pos rfl
  have en : qn (wN S t n k) = qn S + 1 := rfl
  have ne : ∀ {a x : Nat}, qT S a = x → x ≠ 0 → a ≠ qn S := fun e e0 q => e0 (by rw [← e, q, z])
  refine ⟨?_, fun q hq => ?_, fun a j b e => ?_, fun b e0 e12 e22 => ?_, fun b e => ?_, fun i hi => ?_, by omega, fun b e => ?_, fun b i e => ?_, fun b j e => ?_, fun b e => ?_, fun p hp => ?_⟩
  · rw [eT 0 (ne h.1 (by decide))]; exact h.1
  · obtain ⟨f1, f2, f3⟩ := finC_ok q hq
    obtain ⟨q1, q2, q3⟩ := h.2.1 q hq
    rw [eR q.1 (ne rfl (h.own q hq)), eT _ (ne q2 f1), eN _ (ne q2 f1)]
    exact ⟨q1, q2, q3⟩
  · by_cases ea : a = qn S
    · rw [ea, sR] at e; cases e
    · rw [eR a ea] at e
      obtain ⟨q1, q2, q3⟩ := h.rf3 a j b e
      rw [eT a ea, eT b (ne q1 q2)]
      exact ⟨q1, q2, q3⟩
  · by_cases eb : b = qn S
    · omega
    · rw [eT b eb] at e0 e12 e22
      have := h.lt4 b e0 e12 e22
      omega
  · by_cases eb : b = qn S
    · rw [eb, sT] at e; exact absurd e ht.2.1
    · rw [eT b eb] at e
      exact h.t12 b e
  · obtain ⟨h1, h2, h3, h4⟩ := h.tx6 i hi
    rw [eT _ (by omega), eT _ (by omega), eN _ (by omega), eI _ (by omega)]
    exact ⟨h1, h2, h3, h4⟩
  · by_cases eb : b = qn S
    · rw [eb, sT] at e; exact absurd e ht.2.2
    · rw [eT b eb] at e; exact h.t22 b e
  · by_cases eb : b = qn S
    · rw [eb, sI]; exact fit_0
    · rw [eT b eb] at e; rw [eI b eb]; exact h.by9 b i e
  · by_cases eb : b = qn S
    · rw [eb, sI]; exact Or.inl rfl
    · rw [eT b eb] at e; rw [eI b eb]; exact h.bz b j e
  · by_cases eb : b = qn S
    · rw [eb]; show (if qn S = qn S then n else qN S (qn S)) ≤ _; rw [if_pos rfl]; exact hn
    · rw [eT b eb] at e; rw [eN b eb]; exact h.ln b e
  · rw [eR p.1 (ne rfl (h.pto p hp))]; exact h.pt p hp
theorem shx.newC {S U : MS} {t n k : Nat} (h : shx S U) (hw : wfC U) (hT : qn U < TXB) : shx S (wN U t n k) := h.tr ⟨fun b hb => by
  have hne : b ≠ qn U := fun e => hb (by rw [e, hw.nx hT])
  exact ⟨if_neg hne, if_neg hne⟩, Nat.le_succ _⟩
/-- a copy of a row -/
def wKC (S : MS) (t h k : Nat) : MS := wC (wN S t (qN S h) k) (qn S) (qI S h)
theorem wfC.clone {S : MS} {t t0 h k : Nat} (w : wfC S) (hT : qn S < TXB) (e : qT S h = t0) (h0 : 100 < t0 ∧ t0 < 200) (ht : 100 < t ∧ t < 200) : wfC (wKC S t h k) := wfC.putC (t := t) (w.new hT (by omega) (w.len9 e (by omega))) (if_pos rfl) (by omega) (fun q i => w.by e h0) (fun j q => absurd q (zB ht))
theorem sLc_small : ∀ i : Nat, i < NTC → sLc.getD i 0 < 2147483648 := by decide
theorem wfC.txt {S : MS} (h : wfC S) {i : Nat} (hi : i < NTC) : qT S (TXB + 2 * i) = 12 := (h.tx6 i hi).1
theorem wfC.len {S : MS} {b : Nat} (h : wfC S) (e : qT S b = 12) : qN S (b + 1) < 2147483648 := by
  obtain ⟨i, hi, rfl⟩ := h.t12 b e
  rw [(h.tx6 i hi).2.2.1]
  exact sLc_small i hi
