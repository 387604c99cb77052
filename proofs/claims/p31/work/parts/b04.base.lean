/-- another kind -/
def wT (S : MS) (h t : Nat) : MS := (S.1, S.2.1, S.2.2.1, fun a => if a = h then t else qT S a, S.2.2.2.2)
def Gr.cF (g : Gr) : ClassId := g.2.2.2.2.2.2.2
abbrev rD (g : Gr) : va_G := (g.1, g.2.1)
def NTX : Nat := 19
def sLr : List Nat := [4, 11, 9, 10, 9, 2, 2, 2, 1, 2, 3, 1, 1, 2, 1, 1, 0, 1, 1]
def sBr : List (List Int32) := [[67, 111, 100, 101], [68, 105, 118, 105, 100, 101, 69, 114, 114, 111, 114], [78, 117, 108, 108, 69, 114, 114, 111, 114], [73, 110, 100, 101, 120, 69, 114, 114, 111, 114], [83, 105, 122, 101, 69, 114, 114, 111, 114], [73, 73], [74, 74], [74, 73], [73], [65, 73], [65, 73, 73], [74], [82], [82, 82], [65], [69], [], [78], [99]]
def finL : List (Nat × Nat × Nat × Nat) := [(0, 1, 6, 12), (3, 2, 1, 16000), (6, 3, 14, 0), (15, 4, 2, 502), (16, 5, 2, 502), (17, 6, 2, 502), (18, 7, 2, 502), (19, 8, 4, 502), (24, 9, 2, 48), (26, 10, 2, 3000), (27, 11, 2, 3000), (29, 12, 2, 24), (30, 13, 2, 24), (31, 14, 2, 24), (32, 15, 2, 24), (33, 16, 2, 24), (34, 17, 2, 24), (38, 18, 2, 1201), (40, 19, 2, 86400), (42, 20, 2, 40000), (44, 21, 2, 1536), (55, 22, 2, 9600), (58, 23, 1, 57600), (59, 24, 3, 1200), (60, 25, 1, 24), (61, 26, 1, 28), (66, 27, 2, 115200), (67, 28, 2, 700), (68, 29, 2, 700), (69, 30, 2, 700), (70, 31, 2, 700), (71, 32, 4, 700), (72, 33, 5, 700), (79, 36, 2, 1297), (81, 37, 4, 24), (82, 38, 2, 20000), (83, 39, 2, 401), (84, 40, 2, 401), (87, 41, 4, 8), (89, 42, 2, 60), (90, 43, 2, 60), (91, 44, 2, 60), (92, 45, 4, 1440), (93, 46, 4, 1440), (94, 47, 1, 1440), (95, 48, 1, 1440), (103, 49, 2, 1201), (104, 50, 2, 1201), (108, 51, 2, 1202), (109, 52, 2, 24000), (111, 53, 3, 1200), (112, 54, 2, 45600), (113, 55, 2, 1200), (114, 56, 3, 1200), (115, 57, 2, 1200), (116, 58, 3, 1200), (117, 59, 2, 1200), (118, 60, 11, 0), (119, 74, 2, 87000), (120, 75, 2, 40000), (121, 76, 2, 1536), (124, 77, 2, 12), (125, 78, 2, 1200), (126, 79, 2, 1200), (127, 80, 2, 1200), (128, 81, 3, 1200), (130, 82, 2, 16), (131, 83, 2, 16), (132, 84, 2, 16), (133, 85, 2, 16), (134, 86, 3, 16), (136, 87, 3, 1201), (137, 88, 3, 1200), (138, 89, 2, 1200), (140, 90, 2, 1200), (141, 91, 2, 1201), (142, 92, 2, 1200)]
theorem fin_15 : (15, 4, 2, 502) ∈ finL := List.mem_of_getElem? (i := 3) rfl
theorem fin_16 : (16, 5, 2, 502) ∈ finL := List.mem_of_getElem? (i := 4) rfl
theorem fin_17 : (17, 6, 2, 502) ∈ finL := List.mem_of_getElem? (i := 5) rfl
theorem fin_18 : (18, 7, 2, 502) ∈ finL := List.mem_of_getElem? (i := 6) rfl
theorem fin_24 : (24, 9, 2, 48) ∈ finL := List.mem_of_getElem? (i := 8) rfl
theorem fin_26 : (26, 10, 2, 3000) ∈ finL := List.mem_of_getElem? (i := 9) rfl
theorem fin_27 : (27, 11, 2, 3000) ∈ finL := List.mem_of_getElem? (i := 10) rfl
theorem fin_29 : (29, 12, 2, 24) ∈ finL := List.mem_of_getElem? (i := 11) rfl
theorem fin_30 : (30, 13, 2, 24) ∈ finL := List.mem_of_getElem? (i := 12) rfl
theorem fin_31 : (31, 14, 2, 24) ∈ finL := List.mem_of_getElem? (i := 13) rfl
theorem fin_32 : (32, 15, 2, 24) ∈ finL := List.mem_of_getElem? (i := 14) rfl
theorem fin_33 : (33, 16, 2, 24) ∈ finL := List.mem_of_getElem? (i := 15) rfl
theorem fin_34 : (34, 17, 2, 24) ∈ finL := List.mem_of_getElem? (i := 16) rfl
section
variable {g : Gr} {ad : Nat → Nat} {S S' : MS} {h a i : Nat}
theorem qI_self {v : Int32} : qI (wI S h i v) h = upd (qI S h) i v := if_pos rfl
end
/-- the digits of the numbers below a hundred -/
def dgO (j : Nat) : Int32 := Int32.ofNat (48 + j % 10)
def dgT (j : Nat) : Int32 := Int32.ofNat (48 + j / 10)
def sEqP (S : MS) (a b : Nat) : Prop := qN S (a + 1) = qN S (b + 1) ∧ ∀ j : Nat, j < qN S (a + 1) → qI S (a + 1) j = qI S (b + 1) j
noncomputable def sEq (S : MS) (a b : Nat) : Int32 := @ite Int32 (sEqP S a b) (Classical.propDecidable _) 1 0
def KC : Nat := 300000
def KS : Nat := 3720000
/-- a copy of a row -/
def wK (S : MS) (h k : Nat) : MS := wC (wN S 21 (qN S h) k) (qn S) (qI S h)
/-- all the bytes of a row are bytes -/
def byt (S : MS) (h : Nat) : Prop := ∀ i : Nat, fits .byte (.int (qI S h i)) = true

