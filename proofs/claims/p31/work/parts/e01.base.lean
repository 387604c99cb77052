def dfJ0 : List Value := [.null, .int 0, .int 0, .int 0]
theorem dfJ0_ok : ∀ j, j < 4 → defaultValue (tyJ0 j) = vp_V dfJ0 j := by decide +kernel
def dfJ4 : List Value := [.null, .int 0, .int 0, .int 0]
theorem dfJ4_ok : ∀ j, j < 4 → defaultValue (tyJ4 j) = vp_V dfJ4 j := by decide +kernel
def tyR (g : Gr) : List (ClassId × FieldType) := [(g.cB, .byte), (g.cI, .int), (g.cZ, .boolean), (g.cL, .long), (g.cS, .object "java/lang/String"), (g.cF, .object RX13)]
def cl2 : List vw_C := cl0 ++ [(RJ0, TJ0, 4), (RJ4, TJ4, 4)]
def NTX : Nat := 19
def sLr : List Nat := [4, 11, 9, 10, 9, 2, 2, 2, 1, 2, 3, 1, 1, 2, 1, 1, 0, 1, 1]
def sBr : List (List Int32) := [[67, 111, 100, 101], [68, 105, 118, 105, 100, 101, 69, 114, 114, 111, 114], [78, 117, 108, 108, 69, 114, 114, 111, 114], [73, 110, 100, 101, 120, 69, 114, 114, 111, 114], [83, 105, 122, 101, 69, 114, 114, 111, 114], [73, 73], [74, 74], [74, 73], [73], [65, 73], [65, 73, 73], [74], [82], [82, 82], [65], [69], [], [78], [99]]
def ldcL : List (Nat × String × Nat) := [(412, "Code", 0), (532, "DivideError", 1), (534, "NullError", 2), (536, "IndexError", 3), (538, "SizeError", 4), (700, "II", 5), (702, "JJ", 6), (704, "JI", 7), (706, "I", 8), (707, "AI", 9), (709, "AII", 10), (711, "J", 11), (713, "R", 12), (715, "RR", 13), (717, "A", 14), (719, "E", 15), (721, "", 16), (723, "N", 17), (1285, "c", 18)]
theorem ldc_412 : (412, "Code", 0) ∈ ldcL := List.mem_of_getElem? (i := 0) rfl
theorem ldc_532 : (532, "DivideError", 1) ∈ ldcL := List.mem_of_getElem? (i := 1) rfl
theorem ldc_534 : (534, "NullError", 2) ∈ ldcL := List.mem_of_getElem? (i := 2) rfl
theorem ldc_536 : (536, "IndexError", 3) ∈ ldcL := List.mem_of_getElem? (i := 3) rfl
theorem ldc_538 : (538, "SizeError", 4) ∈ ldcL := List.mem_of_getElem? (i := 4) rfl
theorem ldc_700 : (700, "II", 5) ∈ ldcL := List.mem_of_getElem? (i := 5) rfl
theorem ldc_702 : (702, "JJ", 6) ∈ ldcL := List.mem_of_getElem? (i := 6) rfl
theorem ldc_704 : (704, "JI", 7) ∈ ldcL := List.mem_of_getElem? (i := 7) rfl
theorem ldc_706 : (706, "I", 8) ∈ ldcL := List.mem_of_getElem? (i := 8) rfl
theorem ldc_707 : (707, "AI", 9) ∈ ldcL := List.mem_of_getElem? (i := 9) rfl
theorem ldc_709 : (709, "AII", 10) ∈ ldcL := List.mem_of_getElem? (i := 10) rfl
theorem ldc_711 : (711, "J", 11) ∈ ldcL := List.mem_of_getElem? (i := 11) rfl
theorem ldc_713 : (713, "R", 12) ∈ ldcL := List.mem_of_getElem? (i := 12) rfl
theorem ldc_715 : (715, "RR", 13) ∈ ldcL := List.mem_of_getElem? (i := 13) rfl
theorem ldc_717 : (717, "A", 14) ∈ ldcL := List.mem_of_getElem? (i := 14) rfl
theorem ldc_719 : (719, "E", 15) ∈ ldcL := List.mem_of_getElem? (i := 15) rfl
theorem ldc_721 : (721, "", 16) ∈ ldcL := List.mem_of_getElem? (i := 16) rfl
theorem ldc_723 : (723, "N", 17) ∈ ldcL := List.mem_of_getElem? (i := 17) rfl
theorem ldc_1285 : (1285, "c", 18) ∈ ldcL := List.mem_of_getElem? (i := 18) rfl
def F14 (i : Nat → Int32) (j : Nat → Int64) (r : Nat → Option Nat) (ad : Nat → Nat) : List Value := [vf ad (r 0), .int (i 1), .int (i 2), vf ad (r 3), .int (i 4), .int (i 5), vf ad (r 6), .int (i 7), .int (i 8), .int (i 9), .int (i 10), vf ad (r 11), .int (i 12), .int (i 13), .int (i 14), vf ad (r 15), vf ad (r 16), vf ad (r 17), vf ad (r 18), vf ad (r 19), .int (i 20), .int (i 21), .int (i 22), .int (i 23), vf ad (r 24), .int (i 25), vf ad (r 26), vf ad (r 27), .int (i 28), vf ad (r 29), vf ad (r 30), vf ad (r 31), vf ad (r 32), vf ad (r 33), vf ad (r 34), .int (i 35), .int (i 36), .int (i 37), vf ad (r 38), .int (i 39), vf ad (r 40), .int (i 41), vf ad (r 42), .int (i 43), vf ad (r 44), .int (i 45), .int (i 46), vf ad (r 47), vf ad (r 48), vf ad (r 49), vf ad (r 50), .int (i 51), .int (i 52), .int (i 53), .int (i 54), vf ad (r 55), .int (i 56), .int (i 57), vf ad (r 58), vf ad (r 59), vf ad (r 60), vf ad (r 61), .int (i 62), .int (i 63), .int (i 64), .int (i 65), vf ad (r 66), vf ad (r 67), vf ad (r 68), vf ad (r 69), vf ad (r 70), vf ad (r 71), vf ad (r 72), .int (i 73), .int (i 74), vf ad (r 75), vf ad (r 76), .int (i 77), .int (i 78), vf ad (r 79), vf ad (r 80), vf ad (r 81), vf ad (r 82), vf ad (r 83), vf ad (r 84), .int (i 85), .int (i 86), vf ad (r 87), .int (i 88), vf ad (r 89), vf ad (r 90), vf ad (r 91), vf ad (r 92), vf ad (r 93), vf ad (r 94), vf ad (r 95), .int (i 96), .int (i 97), .int (i 98), .int (i 99), .int (i 100), .long (j 101), .int (i 102), vf ad (r 103), vf ad (r 104), .int (i 105), .int (i 106), .int (i 107), vf ad (r 108), vf ad (r 109), .int (i 110), vf ad (r 111), vf ad (r 112), vf ad (r 113), vf ad (r 114), vf ad (r 115), vf ad (r 116), vf ad (r 117), vf ad (r 118), vf ad (r 119), vf ad (r 120), vf ad (r 121), .int (i 122), .int (i 123), vf ad (r 124), vf ad (r 125), vf ad (r 126), vf ad (r 127), vf ad (r 128), .int (i 129), vf ad (r 130), vf ad (r 131), vf ad (r 132), vf ad (r 133), vf ad (r 134), .int (i 135), vf ad (r 136), vf ad (r 137), vf ad (r 138), .int (i 139), vf ad (r 140), vf ad (r 141), vf ad (r 142)]
set_option maxRecDepth 100000 in
theorem F14_s0 {i : Nat → Int32} {j : Nat → Int64} {r : Nat → Option Nat} {ad : Nat → Nat} {v : Option Nat} : F14 i j (va_up r 0 v) ad = (F14 i j r ad).set 0 (vf ad v) := rfl
set_option maxRecDepth 100000 in
theorem F14_s1 {i : Nat → Int32} {j : Nat → Int64} {r : Nat → Option Nat} {ad : Nat → Nat} {v : Int32} : F14 (upd i 1 v) j r ad = (F14 i j r ad).set 1 (.int v) := rfl
set_option maxRecDepth 100000 in
theorem F14_s2 {i : Nat → Int32} {j : Nat → Int64} {r : Nat → Option Nat} {ad : Nat → Nat} {v : Int32} : F14 (upd i 2 v) j r ad = (F14 i j r ad).set 2 (.int v) := rfl
set_option maxRecDepth 100000 in
theorem F14_s3 {i : Nat → Int32} {j : Nat → Int64} {r : Nat → Option Nat} {ad : Nat → Nat} {v : Option Nat} : F14 i j (va_up r 3 v) ad = (F14 i j r ad).set 3 (vf ad v) := rfl
set_option maxRecDepth 100000 in
theorem F14_s4 {i : Nat → Int32} {j : Nat → Int64} {r : Nat → Option Nat} {ad : Nat → Nat} {v : Int32} : F14 (upd i 4 v) j r ad = (F14 i j r ad).set 4 (.int v) := rfl
set_option maxRecDepth 100000 in
theorem F14_s5 {i : Nat → Int32} {j : Nat → Int64} {r : Nat → Option Nat} {ad : Nat → Nat} {v : Int32} : F14 (upd i 5 v) j r ad = (F14 i j r ad).set 5 (.int v) := rfl
set_option maxRecDepth 100000 in
theorem F14_s6 {i : Nat → Int32} {j : Nat → Int64} {r : Nat → Option Nat} {ad : Nat → Nat} {v : Option Nat} : F14 i j (va_up r 6 v) ad = (F14 i j r ad).set 6 (vf ad v) := rfl
set_option maxRecDepth 100000 in
theorem F14_s7 {i : Nat → Int32} {j : Nat → Int64} {r : Nat → Option Nat} {ad : Nat → Nat} {v : Int32} : F14 (upd i 7 v) j r ad = (F14 i j r ad).set 7 (.int v) := rfl
set_option maxRecDepth 100000 in
theorem F14_s8 {i : Nat → Int32} {j : Nat → Int64} {r : Nat → Option Nat} {ad : Nat → Nat} {v : Int32} : F14 (upd i 8 v) j r ad = (F14 i j r ad).set 8 (.int v) := rfl
set_option maxRecDepth 100000 in
theorem F14_s9 {i : Nat → Int32} {j : Nat → Int64} {r : Nat → Option Nat} {ad : Nat → Nat} {v : Int32} : F14 (upd i 9 v) j r ad = (F14 i j r ad).set 9 (.int v) := rfl
set_option maxRecDepth 100000 in
theorem F14_s10 {i : Nat → Int32} {j : Nat → Int64} {r : Nat → Option Nat} {ad : Nat → Nat} {v : Int32} : F14 (upd i 10 v) j r ad = (F14 i j r ad).set 10 (.int v) := rfl
set_option maxRecDepth 100000 in
theorem F14_s11 {i : Nat → Int32} {j : Nat → Int64} {r : Nat → Option Nat} {ad : Nat → Nat} {v : Option Nat} : F14 i j (va_up r 11 v) ad = (F14 i j r ad).set 11 (vf ad v) := rfl
set_option maxRecDepth 100000 in
theorem F14_s12 {i : Nat → Int32} {j : Nat → Int64} {r : Nat → Option Nat} {ad : Nat → Nat} {v : Int32} : F14 (upd i 12 v) j r ad = (F14 i j r ad).set 12 (.int v) := rfl
set_option maxRecDepth 100000 in
theorem F14_s13 {i : Nat → Int32} {j : Nat → Int64} {r : Nat → Option Nat} {ad : Nat → Nat} {v : Int32} : F14 (upd i 13 v) j r ad = (F14 i j r ad).set 13 (.int v) := rfl
set_option maxRecDepth 100000 in
theorem F14_s14 {i : Nat → Int32} {j : Nat → Int64} {r : Nat → Option Nat} {ad : Nat → Nat} {v : Int32} : F14 (upd i 14 v) j r ad = (F14 i j r ad).set 14 (.int v) := rfl
set_option maxRecDepth 100000 in
theorem F14_s15 {i : Nat → Int32} {j : Nat → Int64} {r : Nat → Option Nat} {ad : Nat → Nat} {v : Option Nat} : F14 i j (va_up r 15 v) ad = (F14 i j r ad).set 15 (vf ad v) := rfl
set_option maxRecDepth 100000 in
theorem F14_s16 {i : Nat → Int32} {j : Nat → Int64} {r : Nat → Option Nat} {ad : Nat → Nat} {v : Option Nat} : F14 i j (va_up r 16 v) ad = (F14 i j r ad).set 16 (vf ad v) := rfl
set_option maxRecDepth 100000 in
theorem F14_s17 {i : Nat → Int32} {j : Nat → Int64} {r : Nat → Option Nat} {ad : Nat → Nat} {v : Option Nat} : F14 i j (va_up r 17 v) ad = (F14 i j r ad).set 17 (vf ad v) := rfl
set_option maxRecDepth 100000 in
theorem F14_s18 {i : Nat → Int32} {j : Nat → Int64} {r : Nat → Option Nat} {ad : Nat → Nat} {v : Option Nat} : F14 i j (va_up r 18 v) ad = (F14 i j r ad).set 18 (vf ad v) := rfl
set_option maxRecDepth 100000 in
theorem F14_s19 {i : Nat → Int32} {j : Nat → Int64} {r : Nat → Option Nat} {ad : Nat → Nat} {v : Option Nat} : F14 i j (va_up r 19 v) ad = (F14 i j r ad).set 19 (vf ad v) := rfl
set_option maxRecDepth 100000 in
theorem F14_s20 {i : Nat → Int32} {j : Nat → Int64} {r : Nat → Option Nat} {ad : Nat → Nat} {v : Int32} : F14 (upd i 20 v) j r ad = (F14 i j r ad).set 20 (.int v) := rfl
set_option maxRecDepth 100000 in
theorem F14_s21 {i : Nat → Int32} {j : Nat → Int64} {r : Nat → Option Nat} {ad : Nat → Nat} {v : Int32} : F14 (upd i 21 v) j r ad = (F14 i j r ad).set 21 (.int v) := rfl
set_option maxRecDepth 100000 in
theorem F14_s22 {i : Nat → Int32} {j : Nat → Int64} {r : Nat → Option Nat} {ad : Nat → Nat} {v : Int32} : F14 (upd i 22 v) j r ad = (F14 i j r ad).set 22 (.int v) := rfl
set_option maxRecDepth 100000 in
theorem F14_s24 {i : Nat → Int32} {j : Nat → Int64} {r : Nat → Option Nat} {ad : Nat → Nat} {v : Option Nat} : F14 i j (va_up r 24 v) ad = (F14 i j r ad).set 24 (vf ad v) := rfl
set_option maxRecDepth 100000 in
theorem F14_s25 {i : Nat → Int32} {j : Nat → Int64} {r : Nat → Option Nat} {ad : Nat → Nat} {v : Int32} : F14 (upd i 25 v) j r ad = (F14 i j r ad).set 25 (.int v) := rfl
set_option maxRecDepth 100000 in
theorem F14_s26 {i : Nat → Int32} {j : Nat → Int64} {r : Nat → Option Nat} {ad : Nat → Nat} {v : Option Nat} : F14 i j (va_up r 26 v) ad = (F14 i j r ad).set 26 (vf ad v) := rfl
set_option maxRecDepth 100000 in
theorem F14_s27 {i : Nat → Int32} {j : Nat → Int64} {r : Nat → Option Nat} {ad : Nat → Nat} {v : Option Nat} : F14 i j (va_up r 27 v) ad = (F14 i j r ad).set 27 (vf ad v) := rfl
set_option maxRecDepth 100000 in
theorem F14_s28 {i : Nat → Int32} {j : Nat → Int64} {r : Nat → Option Nat} {ad : Nat → Nat} {v : Int32} : F14 (upd i 28 v) j r ad = (F14 i j r ad).set 28 (.int v) := rfl
set_option maxRecDepth 100000 in
theorem F14_s29 {i : Nat → Int32} {j : Nat → Int64} {r : Nat → Option Nat} {ad : Nat → Nat} {v : Option Nat} : F14 i j (va_up r 29 v) ad = (F14 i j r ad).set 29 (vf ad v) := rfl
set_option maxRecDepth 100000 in
theorem F14_s30 {i : Nat → Int32} {j : Nat → Int64} {r : Nat → Option Nat} {ad : Nat → Nat} {v : Option Nat} : F14 i j (va_up r 30 v) ad = (F14 i j r ad).set 30 (vf ad v) := rfl
set_option maxRecDepth 100000 in
theorem F14_s31 {i : Nat → Int32} {j : Nat → Int64} {r : Nat → Option Nat} {ad : Nat → Nat} {v : Option Nat} : F14 i j (va_up r 31 v) ad = (F14 i j r ad).set 31 (vf ad v) := rfl
set_option maxRecDepth 100000 in
theorem F14_s32 {i : Nat → Int32} {j : Nat → Int64} {r : Nat → Option Nat} {ad : Nat → Nat} {v : Option Nat} : F14 i j (va_up r 32 v) ad = (F14 i j r ad).set 32 (vf ad v) := rfl
set_option maxRecDepth 100000 in
theorem F14_s33 {i : Nat → Int32} {j : Nat → Int64} {r : Nat → Option Nat} {ad : Nat → Nat} {v : Option Nat} : F14 i j (va_up r 33 v) ad = (F14 i j r ad).set 33 (vf ad v) := rfl
set_option maxRecDepth 100000 in
theorem F14_s34 {i : Nat → Int32} {j : Nat → Int64} {r : Nat → Option Nat} {ad : Nat → Nat} {v : Option Nat} : F14 i j (va_up r 34 v) ad = (F14 i j r ad).set 34 (vf ad v) := rfl
set_option maxRecDepth 100000 in
theorem F14_s35 {i : Nat → Int32} {j : Nat → Int64} {r : Nat → Option Nat} {ad : Nat → Nat} {v : Int32} : F14 (upd i 35 v) j r ad = (F14 i j r ad).set 35 (.int v) := rfl
set_option maxRecDepth 100000 in
theorem F14_s36 {i : Nat → Int32} {j : Nat → Int64} {r : Nat → Option Nat} {ad : Nat → Nat} {v : Int32} : F14 (upd i 36 v) j r ad = (F14 i j r ad).set 36 (.int v) := rfl
set_option maxRecDepth 100000 in
theorem F14_s37 {i : Nat → Int32} {j : Nat → Int64} {r : Nat → Option Nat} {ad : Nat → Nat} {v : Int32} : F14 (upd i 37 v) j r ad = (F14 i j r ad).set 37 (.int v) := rfl
set_option maxRecDepth 100000 in
theorem F14_s38 {i : Nat → Int32} {j : Nat → Int64} {r : Nat → Option Nat} {ad : Nat → Nat} {v : Option Nat} : F14 i j (va_up r 38 v) ad = (F14 i j r ad).set 38 (vf ad v) := rfl
set_option maxRecDepth 100000 in
theorem F14_s39 {i : Nat → Int32} {j : Nat → Int64} {r : Nat → Option Nat} {ad : Nat → Nat} {v : Int32} : F14 (upd i 39 v) j r ad = (F14 i j r ad).set 39 (.int v) := rfl
set_option maxRecDepth 100000 in
theorem F14_s40 {i : Nat → Int32} {j : Nat → Int64} {r : Nat → Option Nat} {ad : Nat → Nat} {v : Option Nat} : F14 i j (va_up r 40 v) ad = (F14 i j r ad).set 40 (vf ad v) := rfl
set_option maxRecDepth 100000 in
theorem F14_s41 {i : Nat → Int32} {j : Nat → Int64} {r : Nat → Option Nat} {ad : Nat → Nat} {v : Int32} : F14 (upd i 41 v) j r ad = (F14 i j r ad).set 41 (.int v) := rfl
set_option maxRecDepth 100000 in
theorem F14_s42 {i : Nat → Int32} {j : Nat → Int64} {r : Nat → Option Nat} {ad : Nat → Nat} {v : Option Nat} : F14 i j (va_up r 42 v) ad = (F14 i j r ad).set 42 (vf ad v) := rfl
set_option maxRecDepth 100000 in
theorem F14_s43 {i : Nat → Int32} {j : Nat → Int64} {r : Nat → Option Nat} {ad : Nat → Nat} {v : Int32} : F14 (upd i 43 v) j r ad = (F14 i j r ad).set 43 (.int v) := rfl
set_option maxRecDepth 100000 in
theorem F14_s44 {i : Nat → Int32} {j : Nat → Int64} {r : Nat → Option Nat} {ad : Nat → Nat} {v : Option Nat} : F14 i j (va_up r 44 v) ad = (F14 i j r ad).set 44 (vf ad v) := rfl
set_option maxRecDepth 100000 in
theorem F14_s45 {i : Nat → Int32} {j : Nat → Int64} {r : Nat → Option Nat} {ad : Nat → Nat} {v : Int32} : F14 (upd i 45 v) j r ad = (F14 i j r ad).set 45 (.int v) := rfl
set_option maxRecDepth 100000 in
theorem F14_s46 {i : Nat → Int32} {j : Nat → Int64} {r : Nat → Option Nat} {ad : Nat → Nat} {v : Int32} : F14 (upd i 46 v) j r ad = (F14 i j r ad).set 46 (.int v) := rfl
set_option maxRecDepth 100000 in
theorem F14_s47 {i : Nat → Int32} {j : Nat → Int64} {r : Nat → Option Nat} {ad : Nat → Nat} {v : Option Nat} : F14 i j (va_up r 47 v) ad = (F14 i j r ad).set 47 (vf ad v) := rfl
set_option maxRecDepth 100000 in
theorem F14_s48 {i : Nat → Int32} {j : Nat → Int64} {r : Nat → Option Nat} {ad : Nat → Nat} {v : Option Nat} : F14 i j (va_up r 48 v) ad = (F14 i j r ad).set 48 (vf ad v) := rfl
set_option maxRecDepth 100000 in
theorem F14_s49 {i : Nat → Int32} {j : Nat → Int64} {r : Nat → Option Nat} {ad : Nat → Nat} {v : Option Nat} : F14 i j (va_up r 49 v) ad = (F14 i j r ad).set 49 (vf ad v) := rfl
set_option maxRecDepth 100000 in
theorem F14_s50 {i : Nat → Int32} {j : Nat → Int64} {r : Nat → Option Nat} {ad : Nat → Nat} {v : Option Nat} : F14 i j (va_up r 50 v) ad = (F14 i j r ad).set 50 (vf ad v) := rfl
set_option maxRecDepth 100000 in
theorem F14_s51 {i : Nat → Int32} {j : Nat → Int64} {r : Nat → Option Nat} {ad : Nat → Nat} {v : Int32} : F14 (upd i 51 v) j r ad = (F14 i j r ad).set 51 (.int v) := rfl
set_option maxRecDepth 100000 in
theorem F14_s52 {i : Nat → Int32} {j : Nat → Int64} {r : Nat → Option Nat} {ad : Nat → Nat} {v : Int32} : F14 (upd i 52 v) j r ad = (F14 i j r ad).set 52 (.int v) := rfl
set_option maxRecDepth 100000 in
theorem F14_s53 {i : Nat → Int32} {j : Nat → Int64} {r : Nat → Option Nat} {ad : Nat → Nat} {v : Int32} : F14 (upd i 53 v) j r ad = (F14 i j r ad).set 53 (.int v) := rfl
set_option maxRecDepth 100000 in
theorem F14_s54 {i : Nat → Int32} {j : Nat → Int64} {r : Nat → Option Nat} {ad : Nat → Nat} {v : Int32} : F14 (upd i 54 v) j r ad = (F14 i j r ad).set 54 (.int v) := rfl
set_option maxRecDepth 100000 in
theorem F14_s55 {i : Nat → Int32} {j : Nat → Int64} {r : Nat → Option Nat} {ad : Nat → Nat} {v : Option Nat} : F14 i j (va_up r 55 v) ad = (F14 i j r ad).set 55 (vf ad v) := rfl
set_option maxRecDepth 100000 in
theorem F14_s56 {i : Nat → Int32} {j : Nat → Int64} {r : Nat → Option Nat} {ad : Nat → Nat} {v : Int32} : F14 (upd i 56 v) j r ad = (F14 i j r ad).set 56 (.int v) := rfl
set_option maxRecDepth 100000 in
theorem F14_s57 {i : Nat → Int32} {j : Nat → Int64} {r : Nat → Option Nat} {ad : Nat → Nat} {v : Int32} : F14 (upd i 57 v) j r ad = (F14 i j r ad).set 57 (.int v) := rfl
set_option maxRecDepth 100000 in
theorem F14_s58 {i : Nat → Int32} {j : Nat → Int64} {r : Nat → Option Nat} {ad : Nat → Nat} {v : Option Nat} : F14 i j (va_up r 58 v) ad = (F14 i j r ad).set 58 (vf ad v) := rfl
set_option maxRecDepth 100000 in
theorem F14_s59 {i : Nat → Int32} {j : Nat → Int64} {r : Nat → Option Nat} {ad : Nat → Nat} {v : Option Nat} : F14 i j (va_up r 59 v) ad = (F14 i j r ad).set 59 (vf ad v) := rfl
set_option maxRecDepth 100000 in
theorem F14_s60 {i : Nat → Int32} {j : Nat → Int64} {r : Nat → Option Nat} {ad : Nat → Nat} {v : Option Nat} : F14 i j (va_up r 60 v) ad = (F14 i j r ad).set 60 (vf ad v) := rfl
set_option maxRecDepth 100000 in
theorem F14_s61 {i : Nat → Int32} {j : Nat → Int64} {r : Nat → Option Nat} {ad : Nat → Nat} {v : Option Nat} : F14 i j (va_up r 61 v) ad = (F14 i j r ad).set 61 (vf ad v) := rfl
set_option maxRecDepth 100000 in
theorem F14_s62 {i : Nat → Int32} {j : Nat → Int64} {r : Nat → Option Nat} {ad : Nat → Nat} {v : Int32} : F14 (upd i 62 v) j r ad = (F14 i j r ad).set 62 (.int v) := rfl
set_option maxRecDepth 100000 in
theorem F14_s63 {i : Nat → Int32} {j : Nat → Int64} {r : Nat → Option Nat} {ad : Nat → Nat} {v : Int32} : F14 (upd i 63 v) j r ad = (F14 i j r ad).set 63 (.int v) := rfl
set_option maxRecDepth 100000 in
theorem F14_s64 {i : Nat → Int32} {j : Nat → Int64} {r : Nat → Option Nat} {ad : Nat → Nat} {v : Int32} : F14 (upd i 64 v) j r ad = (F14 i j r ad).set 64 (.int v) := rfl
set_option maxRecDepth 100000 in
theorem F14_s65 {i : Nat → Int32} {j : Nat → Int64} {r : Nat → Option Nat} {ad : Nat → Nat} {v : Int32} : F14 (upd i 65 v) j r ad = (F14 i j r ad).set 65 (.int v) := rfl
set_option maxRecDepth 100000 in
theorem F14_s66 {i : Nat → Int32} {j : Nat → Int64} {r : Nat → Option Nat} {ad : Nat → Nat} {v : Option Nat} : F14 i j (va_up r 66 v) ad = (F14 i j r ad).set 66 (vf ad v) := rfl
set_option maxRecDepth 100000 in
theorem F14_s67 {i : Nat → Int32} {j : Nat → Int64} {r : Nat → Option Nat} {ad : Nat → Nat} {v : Option Nat} : F14 i j (va_up r 67 v) ad = (F14 i j r ad).set 67 (vf ad v) := rfl
set_option maxRecDepth 100000 in
theorem F14_s68 {i : Nat → Int32} {j : Nat → Int64} {r : Nat → Option Nat} {ad : Nat → Nat} {v : Option Nat} : F14 i j (va_up r 68 v) ad = (F14 i j r ad).set 68 (vf ad v) := rfl
set_option maxRecDepth 100000 in
theorem F14_s69 {i : Nat → Int32} {j : Nat → Int64} {r : Nat → Option Nat} {ad : Nat → Nat} {v : Option Nat} : F14 i j (va_up r 69 v) ad = (F14 i j r ad).set 69 (vf ad v) := rfl
set_option maxRecDepth 100000 in
theorem F14_s70 {i : Nat → Int32} {j : Nat → Int64} {r : Nat → Option Nat} {ad : Nat → Nat} {v : Option Nat} : F14 i j (va_up r 70 v) ad = (F14 i j r ad).set 70 (vf ad v) := rfl
set_option maxRecDepth 100000 in
theorem F14_s71 {i : Nat → Int32} {j : Nat → Int64} {r : Nat → Option Nat} {ad : Nat → Nat} {v : Option Nat} : F14 i j (va_up r 71 v) ad = (F14 i j r ad).set 71 (vf ad v) := rfl
set_option maxRecDepth 100000 in
theorem F14_s72 {i : Nat → Int32} {j : Nat → Int64} {r : Nat → Option Nat} {ad : Nat → Nat} {v : Option Nat} : F14 i j (va_up r 72 v) ad = (F14 i j r ad).set 72 (vf ad v) := rfl
set_option maxRecDepth 100000 in
theorem F14_s73 {i : Nat → Int32} {j : Nat → Int64} {r : Nat → Option Nat} {ad : Nat → Nat} {v : Int32} : F14 (upd i 73 v) j r ad = (F14 i j r ad).set 73 (.int v) := rfl
set_option maxRecDepth 100000 in
theorem F14_s74 {i : Nat → Int32} {j : Nat → Int64} {r : Nat → Option Nat} {ad : Nat → Nat} {v : Int32} : F14 (upd i 74 v) j r ad = (F14 i j r ad).set 74 (.int v) := rfl
set_option maxRecDepth 100000 in
theorem F14_s75 {i : Nat → Int32} {j : Nat → Int64} {r : Nat → Option Nat} {ad : Nat → Nat} {v : Option Nat} : F14 i j (va_up r 75 v) ad = (F14 i j r ad).set 75 (vf ad v) := rfl
set_option maxRecDepth 100000 in
theorem F14_s76 {i : Nat → Int32} {j : Nat → Int64} {r : Nat → Option Nat} {ad : Nat → Nat} {v : Option Nat} : F14 i j (va_up r 76 v) ad = (F14 i j r ad).set 76 (vf ad v) := rfl
set_option maxRecDepth 100000 in
theorem F14_s77 {i : Nat → Int32} {j : Nat → Int64} {r : Nat → Option Nat} {ad : Nat → Nat} {v : Int32} : F14 (upd i 77 v) j r ad = (F14 i j r ad).set 77 (.int v) := rfl
set_option maxRecDepth 100000 in
theorem F14_s78 {i : Nat → Int32} {j : Nat → Int64} {r : Nat → Option Nat} {ad : Nat → Nat} {v : Int32} : F14 (upd i 78 v) j r ad = (F14 i j r ad).set 78 (.int v) := rfl
set_option maxRecDepth 100000 in
theorem F14_s79 {i : Nat → Int32} {j : Nat → Int64} {r : Nat → Option Nat} {ad : Nat → Nat} {v : Option Nat} : F14 i j (va_up r 79 v) ad = (F14 i j r ad).set 79 (vf ad v) := rfl
set_option maxRecDepth 100000 in
theorem F14_s80 {i : Nat → Int32} {j : Nat → Int64} {r : Nat → Option Nat} {ad : Nat → Nat} {v : Option Nat} : F14 i j (va_up r 80 v) ad = (F14 i j r ad).set 80 (vf ad v) := rfl
set_option maxRecDepth 100000 in
theorem F14_s81 {i : Nat → Int32} {j : Nat → Int64} {r : Nat → Option Nat} {ad : Nat → Nat} {v : Option Nat} : F14 i j (va_up r 81 v) ad = (F14 i j r ad).set 81 (vf ad v) := rfl
set_option maxRecDepth 100000 in
theorem F14_s82 {i : Nat → Int32} {j : Nat → Int64} {r : Nat → Option Nat} {ad : Nat → Nat} {v : Option Nat} : F14 i j (va_up r 82 v) ad = (F14 i j r ad).set 82 (vf ad v) := rfl
set_option maxRecDepth 100000 in
theorem F14_s83 {i : Nat → Int32} {j : Nat → Int64} {r : Nat → Option Nat} {ad : Nat → Nat} {v : Option Nat} : F14 i j (va_up r 83 v) ad = (F14 i j r ad).set 83 (vf ad v) := rfl
set_option maxRecDepth 100000 in
theorem F14_s84 {i : Nat → Int32} {j : Nat → Int64} {r : Nat → Option Nat} {ad : Nat → Nat} {v : Option Nat} : F14 i j (va_up r 84 v) ad = (F14 i j r ad).set 84 (vf ad v) := rfl
set_option maxRecDepth 100000 in
theorem F14_s85 {i : Nat → Int32} {j : Nat → Int64} {r : Nat → Option Nat} {ad : Nat → Nat} {v : Int32} : F14 (upd i 85 v) j r ad = (F14 i j r ad).set 85 (.int v) := rfl
set_option maxRecDepth 100000 in
theorem F14_s86 {i : Nat → Int32} {j : Nat → Int64} {r : Nat → Option Nat} {ad : Nat → Nat} {v : Int32} : F14 (upd i 86 v) j r ad = (F14 i j r ad).set 86 (.int v) := rfl
set_option maxRecDepth 100000 in
theorem F14_s87 {i : Nat → Int32} {j : Nat → Int64} {r : Nat → Option Nat} {ad : Nat → Nat} {v : Option Nat} : F14 i j (va_up r 87 v) ad = (F14 i j r ad).set 87 (vf ad v) := rfl
set_option maxRecDepth 100000 in
theorem F14_s88 {i : Nat → Int32} {j : Nat → Int64} {r : Nat → Option Nat} {ad : Nat → Nat} {v : Int32} : F14 (upd i 88 v) j r ad = (F14 i j r ad).set 88 (.int v) := rfl
set_option maxRecDepth 100000 in
theorem F14_s89 {i : Nat → Int32} {j : Nat → Int64} {r : Nat → Option Nat} {ad : Nat → Nat} {v : Option Nat} : F14 i j (va_up r 89 v) ad = (F14 i j r ad).set 89 (vf ad v) := rfl
set_option maxRecDepth 100000 in
theorem F14_s90 {i : Nat → Int32} {j : Nat → Int64} {r : Nat → Option Nat} {ad : Nat → Nat} {v : Option Nat} : F14 i j (va_up r 90 v) ad = (F14 i j r ad).set 90 (vf ad v) := rfl
set_option maxRecDepth 100000 in
theorem F14_s91 {i : Nat → Int32} {j : Nat → Int64} {r : Nat → Option Nat} {ad : Nat → Nat} {v : Option Nat} : F14 i j (va_up r 91 v) ad = (F14 i j r ad).set 91 (vf ad v) := rfl
set_option maxRecDepth 100000 in
theorem F14_s92 {i : Nat → Int32} {j : Nat → Int64} {r : Nat → Option Nat} {ad : Nat → Nat} {v : Option Nat} : F14 i j (va_up r 92 v) ad = (F14 i j r ad).set 92 (vf ad v) := rfl
set_option maxRecDepth 100000 in
theorem F14_s93 {i : Nat → Int32} {j : Nat → Int64} {r : Nat → Option Nat} {ad : Nat → Nat} {v : Option Nat} : F14 i j (va_up r 93 v) ad = (F14 i j r ad).set 93 (vf ad v) := rfl
set_option maxRecDepth 100000 in
theorem F14_s94 {i : Nat → Int32} {j : Nat → Int64} {r : Nat → Option Nat} {ad : Nat → Nat} {v : Option Nat} : F14 i j (va_up r 94 v) ad = (F14 i j r ad).set 94 (vf ad v) := rfl
set_option maxRecDepth 100000 in
theorem F14_s95 {i : Nat → Int32} {j : Nat → Int64} {r : Nat → Option Nat} {ad : Nat → Nat} {v : Option Nat} : F14 i j (va_up r 95 v) ad = (F14 i j r ad).set 95 (vf ad v) := rfl
set_option maxRecDepth 100000 in
theorem F14_s96 {i : Nat → Int32} {j : Nat → Int64} {r : Nat → Option Nat} {ad : Nat → Nat} {v : Int32} : F14 (upd i 96 v) j r ad = (F14 i j r ad).set 96 (.int v) := rfl
set_option maxRecDepth 100000 in
theorem F14_s97 {i : Nat → Int32} {j : Nat → Int64} {r : Nat → Option Nat} {ad : Nat → Nat} {v : Int32} : F14 (upd i 97 v) j r ad = (F14 i j r ad).set 97 (.int v) := rfl
set_option maxRecDepth 100000 in
theorem F14_s98 {i : Nat → Int32} {j : Nat → Int64} {r : Nat → Option Nat} {ad : Nat → Nat} {v : Int32} : F14 (upd i 98 v) j r ad = (F14 i j r ad).set 98 (.int v) := rfl
set_option maxRecDepth 100000 in
theorem F14_s100 {i : Nat → Int32} {j : Nat → Int64} {r : Nat → Option Nat} {ad : Nat → Nat} {v : Int32} : F14 (upd i 100 v) j r ad = (F14 i j r ad).set 100 (.int v) := rfl
set_option maxRecDepth 100000 in
theorem F14_s101 {i : Nat → Int32} {j : Nat → Int64} {r : Nat → Option Nat} {ad : Nat → Nat} {v : Int64} : F14 i (vp_updL j 101 v) r ad = (F14 i j r ad).set 101 (.long v) := rfl
set_option maxRecDepth 100000 in
theorem F14_s102 {i : Nat → Int32} {j : Nat → Int64} {r : Nat → Option Nat} {ad : Nat → Nat} {v : Int32} : F14 (upd i 102 v) j r ad = (F14 i j r ad).set 102 (.int v) := rfl
set_option maxRecDepth 100000 in
theorem F14_s103 {i : Nat → Int32} {j : Nat → Int64} {r : Nat → Option Nat} {ad : Nat → Nat} {v : Option Nat} : F14 i j (va_up r 103 v) ad = (F14 i j r ad).set 103 (vf ad v) := rfl
set_option maxRecDepth 100000 in
theorem F14_s104 {i : Nat → Int32} {j : Nat → Int64} {r : Nat → Option Nat} {ad : Nat → Nat} {v : Option Nat} : F14 i j (va_up r 104 v) ad = (F14 i j r ad).set 104 (vf ad v) := rfl
set_option maxRecDepth 100000 in
theorem F14_s105 {i : Nat → Int32} {j : Nat → Int64} {r : Nat → Option Nat} {ad : Nat → Nat} {v : Int32} : F14 (upd i 105 v) j r ad = (F14 i j r ad).set 105 (.int v) := rfl
set_option maxRecDepth 100000 in
theorem F14_s106 {i : Nat → Int32} {j : Nat → Int64} {r : Nat → Option Nat} {ad : Nat → Nat} {v : Int32} : F14 (upd i 106 v) j r ad = (F14 i j r ad).set 106 (.int v) := rfl
set_option maxRecDepth 100000 in
theorem F14_s107 {i : Nat → Int32} {j : Nat → Int64} {r : Nat → Option Nat} {ad : Nat → Nat} {v : Int32} : F14 (upd i 107 v) j r ad = (F14 i j r ad).set 107 (.int v) := rfl
set_option maxRecDepth 100000 in
theorem F14_s108 {i : Nat → Int32} {j : Nat → Int64} {r : Nat → Option Nat} {ad : Nat → Nat} {v : Option Nat} : F14 i j (va_up r 108 v) ad = (F14 i j r ad).set 108 (vf ad v) := rfl
set_option maxRecDepth 100000 in
theorem F14_s109 {i : Nat → Int32} {j : Nat → Int64} {r : Nat → Option Nat} {ad : Nat → Nat} {v : Option Nat} : F14 i j (va_up r 109 v) ad = (F14 i j r ad).set 109 (vf ad v) := rfl
set_option maxRecDepth 100000 in
theorem F14_s110 {i : Nat → Int32} {j : Nat → Int64} {r : Nat → Option Nat} {ad : Nat → Nat} {v : Int32} : F14 (upd i 110 v) j r ad = (F14 i j r ad).set 110 (.int v) := rfl
set_option maxRecDepth 100000 in
theorem F14_s111 {i : Nat → Int32} {j : Nat → Int64} {r : Nat → Option Nat} {ad : Nat → Nat} {v : Option Nat} : F14 i j (va_up r 111 v) ad = (F14 i j r ad).set 111 (vf ad v) := rfl
set_option maxRecDepth 100000 in
theorem F14_s112 {i : Nat → Int32} {j : Nat → Int64} {r : Nat → Option Nat} {ad : Nat → Nat} {v : Option Nat} : F14 i j (va_up r 112 v) ad = (F14 i j r ad).set 112 (vf ad v) := rfl
set_option maxRecDepth 100000 in
theorem F14_s113 {i : Nat → Int32} {j : Nat → Int64} {r : Nat → Option Nat} {ad : Nat → Nat} {v : Option Nat} : F14 i j (va_up r 113 v) ad = (F14 i j r ad).set 113 (vf ad v) := rfl
set_option maxRecDepth 100000 in
theorem F14_s114 {i : Nat → Int32} {j : Nat → Int64} {r : Nat → Option Nat} {ad : Nat → Nat} {v : Option Nat} : F14 i j (va_up r 114 v) ad = (F14 i j r ad).set 114 (vf ad v) := rfl
set_option maxRecDepth 100000 in
theorem F14_s115 {i : Nat → Int32} {j : Nat → Int64} {r : Nat → Option Nat} {ad : Nat → Nat} {v : Option Nat} : F14 i j (va_up r 115 v) ad = (F14 i j r ad).set 115 (vf ad v) := rfl
set_option maxRecDepth 100000 in
theorem F14_s116 {i : Nat → Int32} {j : Nat → Int64} {r : Nat → Option Nat} {ad : Nat → Nat} {v : Option Nat} : F14 i j (va_up r 116 v) ad = (F14 i j r ad).set 116 (vf ad v) := rfl
set_option maxRecDepth 100000 in
theorem F14_s117 {i : Nat → Int32} {j : Nat → Int64} {r : Nat → Option Nat} {ad : Nat → Nat} {v : Option Nat} : F14 i j (va_up r 117 v) ad = (F14 i j r ad).set 117 (vf ad v) := rfl
set_option maxRecDepth 100000 in
theorem F14_s118 {i : Nat → Int32} {j : Nat → Int64} {r : Nat → Option Nat} {ad : Nat → Nat} {v : Option Nat} : F14 i j (va_up r 118 v) ad = (F14 i j r ad).set 118 (vf ad v) := rfl
set_option maxRecDepth 100000 in
theorem F14_s119 {i : Nat → Int32} {j : Nat → Int64} {r : Nat → Option Nat} {ad : Nat → Nat} {v : Option Nat} : F14 i j (va_up r 119 v) ad = (F14 i j r ad).set 119 (vf ad v) := rfl
set_option maxRecDepth 100000 in
theorem F14_s120 {i : Nat → Int32} {j : Nat → Int64} {r : Nat → Option Nat} {ad : Nat → Nat} {v : Option Nat} : F14 i j (va_up r 120 v) ad = (F14 i j r ad).set 120 (vf ad v) := rfl
set_option maxRecDepth 100000 in
theorem F14_s121 {i : Nat → Int32} {j : Nat → Int64} {r : Nat → Option Nat} {ad : Nat → Nat} {v : Option Nat} : F14 i j (va_up r 121 v) ad = (F14 i j r ad).set 121 (vf ad v) := rfl
set_option maxRecDepth 100000 in
theorem F14_s122 {i : Nat → Int32} {j : Nat → Int64} {r : Nat → Option Nat} {ad : Nat → Nat} {v : Int32} : F14 (upd i 122 v) j r ad = (F14 i j r ad).set 122 (.int v) := rfl
set_option maxRecDepth 100000 in
theorem F14_s123 {i : Nat → Int32} {j : Nat → Int64} {r : Nat → Option Nat} {ad : Nat → Nat} {v : Int32} : F14 (upd i 123 v) j r ad = (F14 i j r ad).set 123 (.int v) := rfl
set_option maxRecDepth 100000 in
theorem F14_s124 {i : Nat → Int32} {j : Nat → Int64} {r : Nat → Option Nat} {ad : Nat → Nat} {v : Option Nat} : F14 i j (va_up r 124 v) ad = (F14 i j r ad).set 124 (vf ad v) := rfl
set_option maxRecDepth 100000 in
theorem F14_s125 {i : Nat → Int32} {j : Nat → Int64} {r : Nat → Option Nat} {ad : Nat → Nat} {v : Option Nat} : F14 i j (va_up r 125 v) ad = (F14 i j r ad).set 125 (vf ad v) := rfl
set_option maxRecDepth 100000 in
theorem F14_s126 {i : Nat → Int32} {j : Nat → Int64} {r : Nat → Option Nat} {ad : Nat → Nat} {v : Option Nat} : F14 i j (va_up r 126 v) ad = (F14 i j r ad).set 126 (vf ad v) := rfl
set_option maxRecDepth 100000 in
theorem F14_s127 {i : Nat → Int32} {j : Nat → Int64} {r : Nat → Option Nat} {ad : Nat → Nat} {v : Option Nat} : F14 i j (va_up r 127 v) ad = (F14 i j r ad).set 127 (vf ad v) := rfl
set_option maxRecDepth 100000 in
theorem F14_s128 {i : Nat → Int32} {j : Nat → Int64} {r : Nat → Option Nat} {ad : Nat → Nat} {v : Option Nat} : F14 i j (va_up r 128 v) ad = (F14 i j r ad).set 128 (vf ad v) := rfl
set_option maxRecDepth 100000 in
theorem F14_s129 {i : Nat → Int32} {j : Nat → Int64} {r : Nat → Option Nat} {ad : Nat → Nat} {v : Int32} : F14 (upd i 129 v) j r ad = (F14 i j r ad).set 129 (.int v) := rfl
set_option maxRecDepth 100000 in
theorem F14_s130 {i : Nat → Int32} {j : Nat → Int64} {r : Nat → Option Nat} {ad : Nat → Nat} {v : Option Nat} : F14 i j (va_up r 130 v) ad = (F14 i j r ad).set 130 (vf ad v) := rfl
set_option maxRecDepth 100000 in
theorem F14_s131 {i : Nat → Int32} {j : Nat → Int64} {r : Nat → Option Nat} {ad : Nat → Nat} {v : Option Nat} : F14 i j (va_up r 131 v) ad = (F14 i j r ad).set 131 (vf ad v) := rfl
set_option maxRecDepth 100000 in
theorem F14_s132 {i : Nat → Int32} {j : Nat → Int64} {r : Nat → Option Nat} {ad : Nat → Nat} {v : Option Nat} : F14 i j (va_up r 132 v) ad = (F14 i j r ad).set 132 (vf ad v) := rfl
set_option maxRecDepth 100000 in
theorem F14_s133 {i : Nat → Int32} {j : Nat → Int64} {r : Nat → Option Nat} {ad : Nat → Nat} {v : Option Nat} : F14 i j (va_up r 133 v) ad = (F14 i j r ad).set 133 (vf ad v) := rfl
set_option maxRecDepth 100000 in
theorem F14_s134 {i : Nat → Int32} {j : Nat → Int64} {r : Nat → Option Nat} {ad : Nat → Nat} {v : Option Nat} : F14 i j (va_up r 134 v) ad = (F14 i j r ad).set 134 (vf ad v) := rfl
set_option maxRecDepth 100000 in
theorem F14_s135 {i : Nat → Int32} {j : Nat → Int64} {r : Nat → Option Nat} {ad : Nat → Nat} {v : Int32} : F14 (upd i 135 v) j r ad = (F14 i j r ad).set 135 (.int v) := rfl
set_option maxRecDepth 100000 in
theorem F14_s136 {i : Nat → Int32} {j : Nat → Int64} {r : Nat → Option Nat} {ad : Nat → Nat} {v : Option Nat} : F14 i j (va_up r 136 v) ad = (F14 i j r ad).set 136 (vf ad v) := rfl
set_option maxRecDepth 100000 in
theorem F14_s137 {i : Nat → Int32} {j : Nat → Int64} {r : Nat → Option Nat} {ad : Nat → Nat} {v : Option Nat} : F14 i j (va_up r 137 v) ad = (F14 i j r ad).set 137 (vf ad v) := rfl
set_option maxRecDepth 100000 in
theorem F14_s138 {i : Nat → Int32} {j : Nat → Int64} {r : Nat → Option Nat} {ad : Nat → Nat} {v : Option Nat} : F14 i j (va_up r 138 v) ad = (F14 i j r ad).set 138 (vf ad v) := rfl
set_option maxRecDepth 100000 in
theorem F14_s139 {i : Nat → Int32} {j : Nat → Int64} {r : Nat → Option Nat} {ad : Nat → Nat} {v : Int32} : F14 (upd i 139 v) j r ad = (F14 i j r ad).set 139 (.int v) := rfl
set_option maxRecDepth 100000 in
theorem F14_s140 {i : Nat → Int32} {j : Nat → Int64} {r : Nat → Option Nat} {ad : Nat → Nat} {v : Option Nat} : F14 i j (va_up r 140 v) ad = (F14 i j r ad).set 140 (vf ad v) := rfl
set_option maxRecDepth 100000 in
theorem F14_s141 {i : Nat → Int32} {j : Nat → Int64} {r : Nat → Option Nat} {ad : Nat → Nat} {v : Option Nat} : F14 i j (va_up r 141 v) ad = (F14 i j r ad).set 141 (vf ad v) := rfl
set_option maxRecDepth 100000 in
theorem F14_s142 {i : Nat → Int32} {j : Nat → Int64} {r : Nat → Option Nat} {ad : Nat → Nat} {v : Option Nat} : F14 i j (va_up r 142 v) ad = (F14 i j r ad).set 142 (vf ad v) := rfl
def F13 (i : Nat → Int32) (j : Nat → Int64) (r : Nat → Option Nat) (ad : Nat → Nat) : List Value := [vf ad (r 0), vf ad (r 1), .int (i 2), .int (i 3), .int (i 4), vf ad (r 5), vf ad (r 6), vf ad (r 7), vf ad (r 8), vf ad (r 9), vf ad (r 10), vf ad (r 11), vf ad (r 12), vf ad (r 13), vf ad (r 14), vf ad (r 15), vf ad (r 16), vf ad (r 17), vf ad (r 18), vf ad (r 19), vf ad (r 20), .int (i 21), vf ad (r 22)]
set_option maxRecDepth 100000 in
theorem F13_s0 {i : Nat → Int32} {j : Nat → Int64} {r : Nat → Option Nat} {ad : Nat → Nat} {v : Option Nat} : F13 i j (va_up r 0 v) ad = (F13 i j r ad).set 0 (vf ad v) := rfl
set_option maxRecDepth 100000 in
theorem F13_s1 {i : Nat → Int32} {j : Nat → Int64} {r : Nat → Option Nat} {ad : Nat → Nat} {v : Option Nat} : F13 i j (va_up r 1 v) ad = (F13 i j r ad).set 1 (vf ad v) := rfl
set_option maxRecDepth 100000 in
theorem F13_s2 {i : Nat → Int32} {j : Nat → Int64} {r : Nat → Option Nat} {ad : Nat → Nat} {v : Int32} : F13 (upd i 2 v) j r ad = (F13 i j r ad).set 2 (.int v) := rfl
set_option maxRecDepth 100000 in
theorem F13_s3 {i : Nat → Int32} {j : Nat → Int64} {r : Nat → Option Nat} {ad : Nat → Nat} {v : Int32} : F13 (upd i 3 v) j r ad = (F13 i j r ad).set 3 (.int v) := rfl
set_option maxRecDepth 100000 in
theorem F13_s4 {i : Nat → Int32} {j : Nat → Int64} {r : Nat → Option Nat} {ad : Nat → Nat} {v : Int32} : F13 (upd i 4 v) j r ad = (F13 i j r ad).set 4 (.int v) := rfl
set_option maxRecDepth 100000 in
theorem F13_s5 {i : Nat → Int32} {j : Nat → Int64} {r : Nat → Option Nat} {ad : Nat → Nat} {v : Option Nat} : F13 i j (va_up r 5 v) ad = (F13 i j r ad).set 5 (vf ad v) := rfl
set_option maxRecDepth 100000 in
theorem F13_s6 {i : Nat → Int32} {j : Nat → Int64} {r : Nat → Option Nat} {ad : Nat → Nat} {v : Option Nat} : F13 i j (va_up r 6 v) ad = (F13 i j r ad).set 6 (vf ad v) := rfl
set_option maxRecDepth 100000 in
theorem F13_s7 {i : Nat → Int32} {j : Nat → Int64} {r : Nat → Option Nat} {ad : Nat → Nat} {v : Option Nat} : F13 i j (va_up r 7 v) ad = (F13 i j r ad).set 7 (vf ad v) := rfl
set_option maxRecDepth 100000 in
theorem F13_s8 {i : Nat → Int32} {j : Nat → Int64} {r : Nat → Option Nat} {ad : Nat → Nat} {v : Option Nat} : F13 i j (va_up r 8 v) ad = (F13 i j r ad).set 8 (vf ad v) := rfl
set_option maxRecDepth 100000 in
theorem F13_s9 {i : Nat → Int32} {j : Nat → Int64} {r : Nat → Option Nat} {ad : Nat → Nat} {v : Option Nat} : F13 i j (va_up r 9 v) ad = (F13 i j r ad).set 9 (vf ad v) := rfl
set_option maxRecDepth 100000 in
theorem F13_s10 {i : Nat → Int32} {j : Nat → Int64} {r : Nat → Option Nat} {ad : Nat → Nat} {v : Option Nat} : F13 i j (va_up r 10 v) ad = (F13 i j r ad).set 10 (vf ad v) := rfl
set_option maxRecDepth 100000 in
theorem F13_s11 {i : Nat → Int32} {j : Nat → Int64} {r : Nat → Option Nat} {ad : Nat → Nat} {v : Option Nat} : F13 i j (va_up r 11 v) ad = (F13 i j r ad).set 11 (vf ad v) := rfl
set_option maxRecDepth 100000 in
theorem F13_s12 {i : Nat → Int32} {j : Nat → Int64} {r : Nat → Option Nat} {ad : Nat → Nat} {v : Option Nat} : F13 i j (va_up r 12 v) ad = (F13 i j r ad).set 12 (vf ad v) := rfl
set_option maxRecDepth 100000 in
theorem F13_s13 {i : Nat → Int32} {j : Nat → Int64} {r : Nat → Option Nat} {ad : Nat → Nat} {v : Option Nat} : F13 i j (va_up r 13 v) ad = (F13 i j r ad).set 13 (vf ad v) := rfl
set_option maxRecDepth 100000 in
theorem F13_s14 {i : Nat → Int32} {j : Nat → Int64} {r : Nat → Option Nat} {ad : Nat → Nat} {v : Option Nat} : F13 i j (va_up r 14 v) ad = (F13 i j r ad).set 14 (vf ad v) := rfl
set_option maxRecDepth 100000 in
theorem F13_s15 {i : Nat → Int32} {j : Nat → Int64} {r : Nat → Option Nat} {ad : Nat → Nat} {v : Option Nat} : F13 i j (va_up r 15 v) ad = (F13 i j r ad).set 15 (vf ad v) := rfl
set_option maxRecDepth 100000 in
theorem F13_s16 {i : Nat → Int32} {j : Nat → Int64} {r : Nat → Option Nat} {ad : Nat → Nat} {v : Option Nat} : F13 i j (va_up r 16 v) ad = (F13 i j r ad).set 16 (vf ad v) := rfl
set_option maxRecDepth 100000 in
theorem F13_s17 {i : Nat → Int32} {j : Nat → Int64} {r : Nat → Option Nat} {ad : Nat → Nat} {v : Option Nat} : F13 i j (va_up r 17 v) ad = (F13 i j r ad).set 17 (vf ad v) := rfl
set_option maxRecDepth 100000 in
theorem F13_s18 {i : Nat → Int32} {j : Nat → Int64} {r : Nat → Option Nat} {ad : Nat → Nat} {v : Option Nat} : F13 i j (va_up r 18 v) ad = (F13 i j r ad).set 18 (vf ad v) := rfl
set_option maxRecDepth 100000 in
theorem F13_s19 {i : Nat → Int32} {j : Nat → Int64} {r : Nat → Option Nat} {ad : Nat → Nat} {v : Option Nat} : F13 i j (va_up r 19 v) ad = (F13 i j r ad).set 19 (vf ad v) := rfl
set_option maxRecDepth 100000 in
theorem F13_s20 {i : Nat → Int32} {j : Nat → Int64} {r : Nat → Option Nat} {ad : Nat → Nat} {v : Option Nat} : F13 i j (va_up r 20 v) ad = (F13 i j r ad).set 20 (vf ad v) := rfl
set_option maxRecDepth 100000 in
theorem F13_s21 {i : Nat → Int32} {j : Nat → Int64} {r : Nat → Option Nat} {ad : Nat → Nat} {v : Int32} : F13 (upd i 21 v) j r ad = (F13 i j r ad).set 21 (.int v) := rfl
set_option maxRecDepth 100000 in
theorem F13_s22 {i : Nat → Int32} {j : Nat → Int64} {r : Nat → Option Nat} {ad : Nat → Nat} {v : Option Nat} : F13 i j (va_up r 22 v) ad = (F13 i j r ad).set 22 (vf ad v) := rfl
/-- the four fields of a builder, and of a text -/
def F16 (i : Nat → Int32) (r : Nat → Option Nat) (ad : Nat → Nat) : List Value := [vf ad (r 0), .int (i 1), .int (i 2), .int (i 3)]
theorem F16_s0 {i : Nat → Int32} {r : Nat → Option Nat} {ad : Nat → Nat} {v : Option Nat} : F16 i (va_up r 0 v) ad = (F16 i r ad).set 0 (vf ad v) := rfl
theorem F16_s1 {i : Nat → Int32} {r : Nat → Option Nat} {ad : Nat → Nat} {v : Int32} : F16 (upd i 1 v) r ad = (F16 i r ad).set 1 (.int v) := rfl
theorem F16_s3 {i : Nat → Int32} {r : Nat → Option Nat} {ad : Nat → Nat} {v : Int32} : F16 (upd i 3 v) r ad = (F16 i r ad).set 3 (.int v) := rfl
def mtgL : List Nat := [6, 0, 0, 1, 0, 0, 14, 0, 0, 0, 0, 1, 0, 0, 0, 2, 2, 2, 2, 4, 0, 0, 0, 0, 2, 0, 2, 2, 0, 2, 2, 2, 2, 2, 2, 0, 0, 0, 2, 0, 2, 0, 2, 0, 2, 0, 0, 11, 2, 2, 2, 0, 0, 0, 0, 2, 0, 0, 1, 3, 1, 1, 0, 0, 0, 0, 2, 2, 2, 2, 2, 4, 5, 0, 0, 1, 1, 0, 0, 2, 11, 4, 2, 2, 2, 0, 0, 4, 0, 2, 2, 2, 4, 4, 1, 1, 0, 0, 0, 0, 0, 0, 0, 2, 2, 0, 0, 0, 2, 2, 0, 3, 2, 2, 3, 2, 3, 2, 11, 2, 2, 2, 0, 0, 2, 2, 2, 2, 3, 0, 2, 2, 2, 2, 3, 0, 3, 3, 2, 0, 2, 2, 2]
def ftgL : List Nat := [12, 12, 0, 0, 0, 5, 5, 5, 5, 5, 5, 5, 2, 2, 2, 2, 2, 2, 2, 2, 2, 0, 2]
def etg (t j : Nat) : Nat := if t = 10 then mtgL.getD j 0 else if t = 11 then ftgL.getD j 0 else if t = 5 then 12 else if t = 6 then 11 else if t = 13 then (if j = 0 then 21 else 0) else if t = 24 then (if j = 0 then 21 else 0) else if t = 12 then (if j = 0 then 21 else 0) else 0
def finL : List (Nat × Nat × Nat × Nat) := [(0, 1, 6, 12), (3, 2, 1, 16000), (6, 3, 14, 0), (15, 4, 2, 502), (16, 5, 2, 502), (17, 6, 2, 502), (18, 7, 2, 502), (19, 8, 4, 502), (24, 9, 2, 48), (26, 10, 2, 3000), (27, 11, 2, 3000), (29, 12, 2, 24), (30, 13, 2, 24), (31, 14, 2, 24), (32, 15, 2, 24), (33, 16, 2, 24), (34, 17, 2, 24), (38, 18, 2, 1201), (40, 19, 2, 86400), (42, 20, 2, 40000), (44, 21, 2, 1536), (55, 22, 2, 9600), (58, 23, 1, 57600), (59, 24, 3, 1200), (60, 25, 1, 24), (61, 26, 1, 28), (66, 27, 2, 115200), (67, 28, 2, 700), (68, 29, 2, 700), (69, 30, 2, 700), (70, 31, 2, 700), (71, 32, 4, 700), (72, 33, 5, 700), (79, 36, 2, 1297), (81, 37, 4, 24), (82, 38, 2, 20000), (83, 39, 2, 401), (84, 40, 2, 401), (87, 41, 4, 8), (89, 42, 2, 60), (90, 43, 2, 60), (91, 44, 2, 60), (92, 45, 4, 1440), (93, 46, 4, 1440), (94, 47, 1, 1440), (95, 48, 1, 1440), (103, 49, 2, 1201), (104, 50, 2, 1201), (108, 51, 2, 1202), (109, 52, 2, 24000), (111, 53, 3, 1200), (112, 54, 2, 45600), (113, 55, 2, 1200), (114, 56, 3, 1200), (115, 57, 2, 1200), (116, 58, 3, 1200), (117, 59, 2, 1200), (118, 60, 11, 0), (119, 74, 2, 87000), (120, 75, 2, 40000), (121, 76, 2, 1536), (124, 77, 2, 12), (125, 78, 2, 1200), (126, 79, 2, 1200), (127, 80, 2, 1200), (128, 81, 3, 1200), (130, 82, 2, 16), (131, 83, 2, 16), (132, 84, 2, 16), (133, 85, 2, 16), (134, 86, 3, 16), (136, 87, 3, 1201), (137, 88, 3, 1200), (138, 89, 2, 1200), (140, 90, 2, 1200), (141, 91, 2, 1201), (142, 92, 2, 1200)]
theorem fin_0 : (0, 1, 6, 12) ∈ finL := List.mem_of_getElem? (i := 0) rfl
theorem fin_3 : (3, 2, 1, 16000) ∈ finL := List.mem_of_getElem? (i := 1) rfl
theorem fin_6 : (6, 3, 14, 0) ∈ finL := List.mem_of_getElem? (i := 2) rfl
theorem fin_15 : (15, 4, 2, 502) ∈ finL := List.mem_of_getElem? (i := 3) rfl
theorem fin_16 : (16, 5, 2, 502) ∈ finL := List.mem_of_getElem? (i := 4) rfl
theorem fin_17 : (17, 6, 2, 502) ∈ finL := List.mem_of_getElem? (i := 5) rfl
theorem fin_18 : (18, 7, 2, 502) ∈ finL := List.mem_of_getElem? (i := 6) rfl
theorem fin_19 : (19, 8, 4, 502) ∈ finL := List.mem_of_getElem? (i := 7) rfl
theorem fin_24 : (24, 9, 2, 48) ∈ finL := List.mem_of_getElem? (i := 8) rfl
theorem fin_26 : (26, 10, 2, 3000) ∈ finL := List.mem_of_getElem? (i := 9) rfl
theorem fin_27 : (27, 11, 2, 3000) ∈ finL := List.mem_of_getElem? (i := 10) rfl
theorem fin_29 : (29, 12, 2, 24) ∈ finL := List.mem_of_getElem? (i := 11) rfl
theorem fin_30 : (30, 13, 2, 24) ∈ finL := List.mem_of_getElem? (i := 12) rfl
theorem fin_31 : (31, 14, 2, 24) ∈ finL := List.mem_of_getElem? (i := 13) rfl
theorem fin_32 : (32, 15, 2, 24) ∈ finL := List.mem_of_getElem? (i := 14) rfl
theorem fin_33 : (33, 16, 2, 24) ∈ finL := List.mem_of_getElem? (i := 15) rfl
theorem fin_34 : (34, 17, 2, 24) ∈ finL := List.mem_of_getElem? (i := 16) rfl
theorem fin_38 : (38, 18, 2, 1201) ∈ finL := List.mem_of_getElem? (i := 17) rfl
theorem fin_40 : (40, 19, 2, 86400) ∈ finL := List.mem_of_getElem? (i := 18) rfl
theorem fin_42 : (42, 20, 2, 40000) ∈ finL := List.mem_of_getElem? (i := 19) rfl
theorem fin_44 : (44, 21, 2, 1536) ∈ finL := List.mem_of_getElem? (i := 20) rfl
theorem fin_55 : (55, 22, 2, 9600) ∈ finL := List.mem_of_getElem? (i := 21) rfl
theorem fin_58 : (58, 23, 1, 57600) ∈ finL := List.mem_of_getElem? (i := 22) rfl
theorem fin_59 : (59, 24, 3, 1200) ∈ finL := List.mem_of_getElem? (i := 23) rfl
theorem fin_60 : (60, 25, 1, 24) ∈ finL := List.mem_of_getElem? (i := 24) rfl
theorem fin_61 : (61, 26, 1, 28) ∈ finL := List.mem_of_getElem? (i := 25) rfl
theorem fin_66 : (66, 27, 2, 115200) ∈ finL := List.mem_of_getElem? (i := 26) rfl
theorem fin_67 : (67, 28, 2, 700) ∈ finL := List.mem_of_getElem? (i := 27) rfl
theorem fin_68 : (68, 29, 2, 700) ∈ finL := List.mem_of_getElem? (i := 28) rfl
theorem fin_69 : (69, 30, 2, 700) ∈ finL := List.mem_of_getElem? (i := 29) rfl
theorem fin_70 : (70, 31, 2, 700) ∈ finL := List.mem_of_getElem? (i := 30) rfl
theorem fin_71 : (71, 32, 4, 700) ∈ finL := List.mem_of_getElem? (i := 31) rfl
theorem fin_72 : (72, 33, 5, 700) ∈ finL := List.mem_of_getElem? (i := 32) rfl
theorem fin_79 : (79, 36, 2, 1297) ∈ finL := List.mem_of_getElem? (i := 33) rfl
theorem fin_81 : (81, 37, 4, 24) ∈ finL := List.mem_of_getElem? (i := 34) rfl
theorem fin_82 : (82, 38, 2, 20000) ∈ finL := List.mem_of_getElem? (i := 35) rfl
theorem fin_83 : (83, 39, 2, 401) ∈ finL := List.mem_of_getElem? (i := 36) rfl
theorem fin_84 : (84, 40, 2, 401) ∈ finL := List.mem_of_getElem? (i := 37) rfl
theorem fin_87 : (87, 41, 4, 8) ∈ finL := List.mem_of_getElem? (i := 38) rfl
theorem fin_89 : (89, 42, 2, 60) ∈ finL := List.mem_of_getElem? (i := 39) rfl
theorem fin_90 : (90, 43, 2, 60) ∈ finL := List.mem_of_getElem? (i := 40) rfl
theorem fin_91 : (91, 44, 2, 60) ∈ finL := List.mem_of_getElem? (i := 41) rfl
theorem fin_92 : (92, 45, 4, 1440) ∈ finL := List.mem_of_getElem? (i := 42) rfl
theorem fin_93 : (93, 46, 4, 1440) ∈ finL := List.mem_of_getElem? (i := 43) rfl
theorem fin_94 : (94, 47, 1, 1440) ∈ finL := List.mem_of_getElem? (i := 44) rfl
theorem fin_95 : (95, 48, 1, 1440) ∈ finL := List.mem_of_getElem? (i := 45) rfl
theorem fin_103 : (103, 49, 2, 1201) ∈ finL := List.mem_of_getElem? (i := 46) rfl
theorem fin_104 : (104, 50, 2, 1201) ∈ finL := List.mem_of_getElem? (i := 47) rfl
theorem fin_108 : (108, 51, 2, 1202) ∈ finL := List.mem_of_getElem? (i := 48) rfl
theorem fin_109 : (109, 52, 2, 24000) ∈ finL := List.mem_of_getElem? (i := 49) rfl
theorem fin_111 : (111, 53, 3, 1200) ∈ finL := List.mem_of_getElem? (i := 50) rfl
theorem fin_112 : (112, 54, 2, 45600) ∈ finL := List.mem_of_getElem? (i := 51) rfl
theorem fin_113 : (113, 55, 2, 1200) ∈ finL := List.mem_of_getElem? (i := 52) rfl
theorem fin_114 : (114, 56, 3, 1200) ∈ finL := List.mem_of_getElem? (i := 53) rfl
theorem fin_115 : (115, 57, 2, 1200) ∈ finL := List.mem_of_getElem? (i := 54) rfl
theorem fin_116 : (116, 58, 3, 1200) ∈ finL := List.mem_of_getElem? (i := 55) rfl
theorem fin_117 : (117, 59, 2, 1200) ∈ finL := List.mem_of_getElem? (i := 56) rfl
theorem fin_118 : (118, 60, 11, 0) ∈ finL := List.mem_of_getElem? (i := 57) rfl
theorem fin_119 : (119, 74, 2, 87000) ∈ finL := List.mem_of_getElem? (i := 58) rfl
theorem fin_120 : (120, 75, 2, 40000) ∈ finL := List.mem_of_getElem? (i := 59) rfl
theorem fin_121 : (121, 76, 2, 1536) ∈ finL := List.mem_of_getElem? (i := 60) rfl
theorem fin_124 : (124, 77, 2, 12) ∈ finL := List.mem_of_getElem? (i := 61) rfl
theorem fin_125 : (125, 78, 2, 1200) ∈ finL := List.mem_of_getElem? (i := 62) rfl
theorem fin_126 : (126, 79, 2, 1200) ∈ finL := List.mem_of_getElem? (i := 63) rfl
theorem fin_127 : (127, 80, 2, 1200) ∈ finL := List.mem_of_getElem? (i := 64) rfl
theorem fin_128 : (128, 81, 3, 1200) ∈ finL := List.mem_of_getElem? (i := 65) rfl
theorem fin_130 : (130, 82, 2, 16) ∈ finL := List.mem_of_getElem? (i := 66) rfl
theorem fin_131 : (131, 83, 2, 16) ∈ finL := List.mem_of_getElem? (i := 67) rfl
theorem fin_132 : (132, 84, 2, 16) ∈ finL := List.mem_of_getElem? (i := 68) rfl
theorem fin_133 : (133, 85, 2, 16) ∈ finL := List.mem_of_getElem? (i := 69) rfl
theorem fin_134 : (134, 86, 3, 16) ∈ finL := List.mem_of_getElem? (i := 70) rfl
theorem fin_136 : (136, 87, 3, 1201) ∈ finL := List.mem_of_getElem? (i := 71) rfl
theorem fin_137 : (137, 88, 3, 1200) ∈ finL := List.mem_of_getElem? (i := 72) rfl
theorem fin_138 : (138, 89, 2, 1200) ∈ finL := List.mem_of_getElem? (i := 73) rfl
theorem fin_140 : (140, 90, 2, 1200) ∈ finL := List.mem_of_getElem? (i := 74) rfl
theorem fin_141 : (141, 91, 2, 1201) ∈ finL := List.mem_of_getElem? (i := 75) rfl
theorem fin_142 : (142, 92, 2, 1200) ∈ finL := List.mem_of_getElem? (i := 76) rfl
set_option maxRecDepth 100000 in
theorem nofin_11 : ∀ q ∈ finL, q.1 ≠ 11 := by decide
set_option maxRecDepth 100000 in
theorem nofin_47 : ∀ q ∈ finL, q.1 ≠ 47 := by decide
set_option maxRecDepth 100000 in
theorem nofin_48 : ∀ q ∈ finL, q.1 ≠ 48 := by decide
set_option maxRecDepth 100000 in
theorem nofin_49 : ∀ q ∈ finL, q.1 ≠ 49 := by decide
set_option maxRecDepth 100000 in
theorem nofin_50 : ∀ q ∈ finL, q.1 ≠ 50 := by decide
set_option maxRecDepth 100000 in
theorem nofin_75 : ∀ q ∈ finL, q.1 ≠ 75 := by decide
set_option maxRecDepth 100000 in
theorem nofin_76 : ∀ q ∈ finL, q.1 ≠ 76 := by decide
set_option maxRecDepth 100000 in
theorem nofin_80 : ∀ q ∈ finL, q.1 ≠ 80 := by decide
def cel (g : Gr) (ad : Nat → Nat) (S : MS) (h : Nat) : va_E :=
  if qT S h = 10 then .inr (13, F14 (qI S h) (qJ S h) (qR S h) ad) else if qT S h = 11 then .inr (12, F13 (qI S h) (qJ S h) (qR S h) ad)
  else if qT S h = 1 then .inl (g.cB, qN S h, .inl (qI S h)) else if qT S h = 2 then .inl (g.cI, qN S h, .inl (qI S h)) else if qT S h = 3 then .inl (g.cZ, qN S h, .inl (qI S h))
  else if qT S h = 4 then .inl (g.cL, qN S h, .inr (.inl (qJ S h))) else if qT S h = 5 then .inl (g.cS, qN S h, .inr (.inr (.inr (.inr (fun i => (qR S h i).map ad)))))
  else if qT S h = 6 then .inl (g.cF, qN S h, .inr (.inr (.inr (.inr (fun i => (qR S h i).map ad))))) else if qT S h = 12 then .inr (15, [.ref (ad (h + 1)), .int 0, .int 0, .int 0]) else if qT S h = 21 then .inl (g.cB, qN S h, .inl (qI S h)) else if qT S h = 13 then .inr (16, F16 (qI S h) (qR S h) ad) else if qT S h = 24 then .inr (15, F16 (qI S h) (qR S h) ad) else .inr (14, [])
def Wd (g : Gr) (ad : Nat → Nat) (S : MS) : va_W := (List.range (qn S)).map (fun h => (ad h, cel g ad S h))
section
variable {g : Gr} {ad : Nat → Nat} {S S' : MS} {h a i : Nat}
theorem cel14 (e : qT S h = 10) : cel g ad S h = .inr (13, F14 (qI S h) (qJ S h) (qR S h) ad) := by unfold cel; rw [if_pos e]
end
section
variable {g : Gr} {ad : Nat → Nat} {S S' : MS} {h a i : Nat}
theorem cel13 (e : qT S h = 11) : cel g ad S h = .inr (12, F13 (qI S h) (qJ S h) (qR S h) ad) := by unfold cel; rw [if_neg (by omega), if_pos e]
end
section
variable {g : Gr} {ad : Nat → Nat} {S S' : MS} {h a i : Nat}
theorem celB (e : qT S h = 1) : cel g ad S h = .inl (g.cB, qN S h, .inl (qI S h)) := by unfold cel; rw [if_neg (by omega), if_neg (by omega), if_pos e]
end
section
variable {g : Gr} {ad : Nat → Nat} {S S' : MS} {h a i : Nat}
theorem celI (e : qT S h = 2) : cel g ad S h = .inl (g.cI, qN S h, .inl (qI S h)) := by unfold cel; rw [if_neg (by omega), if_neg (by omega), if_neg (by omega), if_pos e]
end
section
variable {g : Gr} {ad : Nat → Nat} {S S' : MS} {h a i : Nat}
theorem celZ (e : qT S h = 3) : cel g ad S h = .inl (g.cZ, qN S h, .inl (qI S h)) := by unfold cel; rw [if_neg (by omega), if_neg (by omega), if_neg (by omega), if_neg (by omega), if_pos e]
end
section
variable {g : Gr} {ad : Nat → Nat} {S S' : MS} {h a i : Nat}
theorem celL (e : qT S h = 4) : cel g ad S h = .inl (g.cL, qN S h, .inr (.inl (qJ S h))) := by unfold cel; rw [if_neg (by omega), if_neg (by omega), if_neg (by omega), if_neg (by omega), if_neg (by omega), if_pos e]
end
section
variable {g : Gr} {ad : Nat → Nat} {S S' : MS} {h a i : Nat}
theorem celS (e : qT S h = 5) : cel g ad S h = .inl (g.cS, qN S h, .inr (.inr (.inr (.inr (fun i => (qR S h i).map ad))))) := by unfold cel; rw [if_neg (by omega), if_neg (by omega), if_neg (by omega), if_neg (by omega), if_neg (by omega), if_neg (by omega), if_pos e]
end
section
variable {g : Gr} {ad : Nat → Nat} {S S' : MS} {h a i : Nat}
theorem celF (e : qT S h = 6) : cel g ad S h = .inl (g.cF, qN S h, .inr (.inr (.inr (.inr (fun i => (qR S h i).map ad))))) := by unfold cel; rw [if_neg (by omega), if_neg (by omega), if_neg (by omega), if_neg (by omega), if_neg (by omega), if_neg (by omega), if_neg (by omega), if_pos e]
end
section
variable {g : Gr} {ad : Nat → Nat} {S S' : MS} {h a i : Nat}
theorem celX (e : qT S h = 14) : cel g ad S h = .inr (14, []) := by unfold cel; rw [if_neg (by omega), if_neg (by omega), if_neg (by omega), if_neg (by omega), if_neg (by omega), if_neg (by omega), if_neg (by omega), if_neg (by omega), if_neg (by omega), if_neg (by omega), if_neg (by omega), if_neg (by omega)]
end
section
variable {g : Gr} {ad : Nat → Nat} {S S' : MS} {h a i : Nat}
theorem celU (e : qT S h = 13) : cel g ad S h = .inr (16, F16 (qI S h) (qR S h) ad) := by unfold cel; rw [if_neg (by omega), if_neg (by omega), if_neg (by omega), if_neg (by omega), if_neg (by omega), if_neg (by omega), if_neg (by omega), if_neg (by omega), if_neg (by omega), if_neg (by omega), if_pos e]
end
section
variable {g : Gr} {ad : Nat → Nat} {S S' : MS} {h a i : Nat}
theorem celT (e : qT S h = 24) : cel g ad S h = .inr (15, F16 (qI S h) (qR S h) ad) := by unfold cel; rw [if_neg (by omega), if_neg (by omega), if_neg (by omega), if_neg (by omega), if_neg (by omega), if_neg (by omega), if_neg (by omega), if_neg (by omega), if_neg (by omega), if_neg (by omega), if_neg (by omega), if_pos e]
end
section
variable {g : Gr} {ad : Nat → Nat} {S S' : MS} {h a i : Nat}
theorem celK (e : qT S h = 12) : cel g ad S h = .inr (15, [.ref (ad (h + 1)), .int 0, .int 0, .int 0]) := by unfold cel; rw [if_neg (by omega), if_neg (by omega), if_neg (by omega), if_neg (by omega), if_neg (by omega), if_neg (by omega), if_neg (by omega), if_neg (by omega), if_pos e]
end
section
variable {g : Gr} {ad : Nat → Nat} {S S' : MS} {h a i : Nat}
theorem celV (e : qT S h = 21) : cel g ad S h = .inl (g.cB, qN S h, .inl (qI S h)) := by unfold cel; rw [if_neg (by omega), if_neg (by omega), if_neg (by omega), if_neg (by omega), if_neg (by omega), if_neg (by omega), if_neg (by omega), if_neg (by omega), if_neg (by omega), if_pos e]
end
section
variable {g : Gr} {ad : Nat → Nat} {S S' : MS} {h a i : Nat}
theorem cel_eq (e1 : qI S' a = qI S a) (e2 : qJ S' a = qJ S a) (e3 : qR S' a = qR S a) (e4 : qT S' a = qT S a) (e5 : qN S' a = qN S a) : cel g ad S' a = cel g ad S a := by unfold cel; rw [e1, e2, e3, e4, e5]
end
section
variable {g : Gr} {ad : Nat → Nat} {S S' : MS} {h a i : Nat}
theorem Wd_at (hl : h < qn S) {c : va_E} (hc : cel g ad S h = c) : (Wd g ad S)[h]? = some (ad h, c) := by
  unfold Wd
  rw [List.getElem?_map, List.getElem?_range hl, ← hc]
  rfl
end
section
variable {g : Gr} {ad : Nat → Nat} {S S' : MS} {h a i : Nat}
theorem Wd_set (hl : h < qn S) (hn : qn S' = qn S) (hne : ∀ a, a ≠ h → cel g ad S' a = cel g ad S a) {c : va_E} (hc : cel g ad S' h = c) : Wd g ad S' = (Wd g ad S).set h (ad h, c) := by
  apply List.ext_getElem?
  intro k
  by_cases hk : k = h
  · subst hk
    rw [List.getElem?_set_self (by unfold Wd; rw [List.length_map, List.length_range]; exact hl), Wd_at (by omega) hc]
  · rw [List.getElem?_set_ne (Ne.symm hk)]
    unfold Wd
    rw [List.getElem?_map, List.getElem?_map, hn]
    cases hq : (List.range (qn S))[k]? with
    | none => rfl
    | some z =>
      have hz : z = k := by
        have := List.getElem?_eq_some_iff.mp hq
        obtain ⟨h1, h2⟩ := this
        rw [List.getElem_range] at h2
        exact h2.symm
      subst hz
      simp only [Option.map_some, hne _ hk]
end
section
variable {g : Gr} {ad : Nat → Nat} {S S' : MS} {h a i : Nat}
theorem cel_wI {v : Int32} (hne : a ≠ h) : cel g ad (wI S h i v) a = cel g ad S a := cel_eq (if_neg hne) rfl rfl rfl rfl
end
section
variable {g : Gr} {ad : Nat → Nat} {S S' : MS} {h a i : Nat}
theorem cel_wJ {v : Int64} (hne : a ≠ h) : cel g ad (wJ S h i v) a = cel g ad S a := cel_eq rfl (if_neg hne) rfl rfl rfl
end
section
variable {g : Gr} {ad : Nat → Nat} {S S' : MS} {h a i : Nat}
theorem cel_wR {v : Option Nat} (hne : a ≠ h) : cel g ad (wR S h i v) a = cel g ad S a := cel_eq rfl rfl (if_neg hne) rfl rfl
end
/-- what holds of the kinds: the fixed rows; where references lead -/
def wfM (S : MS) : Prop := qT S 0 = 10 ∧ (∀ q ∈ finL, qR S 0 q.1 = some q.2.1 ∧ qT S q.2.1 = q.2.2.1 ∧ qN S q.2.1 = q.2.2.2) ∧ (∀ a j b : Nat, qR S a j = some b → qT S b = etg (qT S a) j ∧ etg (qT S a) j ≠ 0) ∧ (∀ b : Nat, qT S b ≠ 0 → qT S b ≠ 12 → qT S b ≠ 22 → b < qn S) ∧ (∀ b : Nat, qT S b = 12 → (b + 1 < qn S ∧ qT S (b + 1) = 21) ∨ ∃ i : Nat, i < NTX ∧ b = TXB + 2 * i) ∧ (∀ i : Nat, i < NTX → qT S (TXB + 2 * i) = 12 ∧ qT S (TXB + 2 * i + 1) = 22 ∧ qN S (TXB + 2 * i + 1) = sLr.getD i 0 ∧ ∀ k : Nat, qI S (TXB + 2 * i + 1) k = (sBr.getD i []).getD k 0) ∧ qn S ≤ TXB ∧ (∀ b : Nat, qT S b = 21 → qN S b < 2147483648) ∧ ∀ b : Nat, qT S b = 22 → TXB ≤ b
theorem wfM.lt {S : MS} {b t : Nat} (h : wfM S) (e : qT S b = t) (h0 : t ≠ 0) (h12 : t ≠ 12) (h22 : t ≠ 22) : b < qn S := h.2.2.2.1 b (by omega) (by omega) (by omega)
theorem wfM.ref {S : MS} {a j b t : Nat} (h : wfM S) (e : qR S a j = some b) (ea : qT S a = t) : qT S b = etg t j := by rw [(h.2.2.1 a j b e).1, ea]
theorem wfM.putI {S : MS} {a j t : Nat} {v : Int32} (h : wfM S) (e : qT S a = t) (h22 : t ≠ 22) : wfM (wI S a j v) := by
  refine ⟨h.1, h.2.1, h.2.2.1, h.2.2.2.1, h.2.2.2.2.1, fun i hi => ?_, h.2.2.2.2.2.2⟩
  obtain ⟨h1, h2, h3, h4⟩ := h.2.2.2.2.2.1 i hi
  refine ⟨h1, h2, h3, fun k => ?_⟩
  rw [qI_wI, if_neg (fun q => h22 (by rw [← e, ← q.1, h2]))]
  exact h4 k
theorem wfM.putC {S : MS} {a t : Nat} {f : Nat → Int32} (h : wfM S) (e : qT S a = t) (h22 : t ≠ 22) : wfM (wC S a f) := by
  refine ⟨h.1, h.2.1, h.2.2.1, h.2.2.2.1, h.2.2.2.2.1, fun i hi => ?_, h.2.2.2.2.2.2⟩
  obtain ⟨h1, h2, h3, h4⟩ := h.2.2.2.2.2.1 i hi
  refine ⟨h1, h2, h3, fun k => ?_⟩
  rw [show qI (wC S a f) (TXB + 2 * i + 1) = qI S (TXB + 2 * i + 1) from if_neg (fun q => h22 (by rw [← e, ← q, h2]))]
  exact h4 k
theorem wfM.put {S : MS} {a j : Nat} {r : Option Nat} (h : wfM S) (hb : ∀ b, r = some b → qT S b = etg (qT S a) j) (hn : a = 0 → ∀ q ∈ finL, q.1 ≠ j) (hz : etg (qT S a) j ≠ 0) : wfM (wR S a j r) := by
  refine ⟨h.1, fun q hq => ⟨?_, (h.2.1 q hq).2⟩, fun a' j' b e => ?_, h.2.2.2⟩
  · rw [qR_wR, if_neg (fun z => hn z.1.symm q hq z.2)]
    exact (h.2.1 q hq).1
  · rw [qR_wR] at e
    by_cases z : a' = a ∧ j' = j
    · rw [if_pos z] at e
      rw [z.1, z.2]
      exact ⟨hb b e, hz⟩
    · rw [if_neg z] at e
      exact h.2.2.1 a' j' b e
/-- the state is held by the heap -/
def Rep (g : Gr) (ad : Nat → Nat) (A : Nat → Prop) (s : State) (S : MS) (H : Heap) (locs : List Loc) : Prop := va_K (rD g) cl2 (tyR g) s ∧ va_P (rD g) cl2 (Wd g ad S) H ∧ va_D A (Wd g ad S) ∧ va_S A s.heap H locs ∧ wfM S
section
variable {g : Gr} {ad : Nat → Nat} {A : Nat → Prop} {s : State} {S S' : MS} {H H1 : Heap} {locs locs1 : List Loc} {h : Nat}
theorem Rep.K (r : Rep g ad A s S H locs) : va_K (rD g) cl2 (tyR g) s := r.1
end
section
variable {g : Gr} {ad : Nat → Nat} {A : Nat → Prop} {s : State} {S S' : MS} {H H1 : Heap} {locs locs1 : List Loc} {h : Nat}
theorem Rep.P (r : Rep g ad A s S H locs) : va_P (rD g) cl2 (Wd g ad S) H := r.2.1
end
section
variable {g : Gr} {ad : Nat → Nat} {A : Nat → Prop} {s : State} {S S' : MS} {H H1 : Heap} {locs locs1 : List Loc} {h : Nat}
theorem Rep.D (r : Rep g ad A s S H locs) : va_D A (Wd g ad S) := r.2.2.1
end
section
variable {g : Gr} {ad : Nat → Nat} {A : Nat → Prop} {s : State} {S S' : MS} {H H1 : Heap} {locs locs1 : List Loc} {h : Nat}
theorem Rep.sS (r : Rep g ad A s S H locs) : va_S A s.heap H locs := r.2.2.2.1
end
section
variable {g : Gr} {ad : Nat → Nat} {A : Nat → Prop} {s : State} {S S' : MS} {H H1 : Heap} {locs locs1 : List Loc} {h : Nat}
theorem Rep.w (r : Rep g ad A s S H locs) : wfM S := r.2.2.2.2
end
section
variable {g : Gr} {ad : Nat → Nat} {A : Nat → Prop} {s : State} {S S' : MS} {H H1 : Heap} {locs locs1 : List Loc} {h : Nat}
theorem Rep.at14 (r : Rep g ad A s S H locs) (e : qT S h = 10) : (Wd g ad S)[h]? = some (ad h, .inr (13, F14 (qI S h) (qJ S h) (qR S h) ad)) := Wd_at (r.w.lt e (by decide) (by decide) (by decide)) (cel14 e)
end
section
variable {g : Gr} {ad : Nat → Nat} {A : Nat → Prop} {s : State} {S S' : MS} {H H1 : Heap} {locs locs1 : List Loc} {h : Nat}
theorem Rep.at13 (r : Rep g ad A s S H locs) (e : qT S h = 11) : (Wd g ad S)[h]? = some (ad h, .inr (12, F13 (qI S h) (qJ S h) (qR S h) ad)) := Wd_at (r.w.lt e (by decide) (by decide) (by decide)) (cel13 e)
end
section
variable {g : Gr} {ad : Nat → Nat} {A : Nat → Prop} {s : State} {S S' : MS} {H H1 : Heap} {locs locs1 : List Loc} {h : Nat}
theorem Rep.atB (r : Rep g ad A s S H locs) (e : qT S h = 1) : (Wd g ad S)[h]? = some (ad h, .inl (g.cB, qN S h, .inl (qI S h))) := Wd_at (r.w.lt e (by decide) (by decide) (by decide)) (celB e)
end
section
variable {g : Gr} {ad : Nat → Nat} {A : Nat → Prop} {s : State} {S S' : MS} {H H1 : Heap} {locs locs1 : List Loc} {h : Nat}
theorem Rep.atI (r : Rep g ad A s S H locs) (e : qT S h = 2) : (Wd g ad S)[h]? = some (ad h, .inl (g.cI, qN S h, .inl (qI S h))) := Wd_at (r.w.lt e (by decide) (by decide) (by decide)) (celI e)
end
section
variable {g : Gr} {ad : Nat → Nat} {A : Nat → Prop} {s : State} {S S' : MS} {H H1 : Heap} {locs locs1 : List Loc} {h : Nat}
theorem Rep.atZ (r : Rep g ad A s S H locs) (e : qT S h = 3) : (Wd g ad S)[h]? = some (ad h, .inl (g.cZ, qN S h, .inl (qI S h))) := Wd_at (r.w.lt e (by decide) (by decide) (by decide)) (celZ e)
end
section
variable {g : Gr} {ad : Nat → Nat} {A : Nat → Prop} {s : State} {S S' : MS} {H H1 : Heap} {locs locs1 : List Loc} {h : Nat}
theorem Rep.atL (r : Rep g ad A s S H locs) (e : qT S h = 4) : (Wd g ad S)[h]? = some (ad h, .inl (g.cL, qN S h, .inr (.inl (qJ S h)))) := Wd_at (r.w.lt e (by decide) (by decide) (by decide)) (celL e)
end
section
variable {g : Gr} {ad : Nat → Nat} {A : Nat → Prop} {s : State} {S S' : MS} {H H1 : Heap} {locs locs1 : List Loc} {h : Nat}
theorem Rep.atS (r : Rep g ad A s S H locs) (e : qT S h = 5) : (Wd g ad S)[h]? = some (ad h, .inl (g.cS, qN S h, .inr (.inr (.inr (.inr (fun i => (qR S h i).map ad)))))) := Wd_at (r.w.lt e (by decide) (by decide) (by decide)) (celS e)
end
section
variable {g : Gr} {ad : Nat → Nat} {A : Nat → Prop} {s : State} {S S' : MS} {H H1 : Heap} {locs locs1 : List Loc} {h : Nat}
theorem Rep.atF (r : Rep g ad A s S H locs) (e : qT S h = 6) : (Wd g ad S)[h]? = some (ad h, .inl (g.cF, qN S h, .inr (.inr (.inr (.inr (fun i => (qR S h i).map ad)))))) := Wd_at (r.w.lt e (by decide) (by decide) (by decide)) (celF e)
end
section
variable {g : Gr} {ad : Nat → Nat} {A : Nat → Prop} {s : State} {S S' : MS} {H H1 : Heap} {locs locs1 : List Loc} {h : Nat}
theorem Rep.ups (r : Rep g ad A s S H locs) {c : va_E} (hl : h < qn S) (hn : qn S' = qn S) (hne : ∀ a, a ≠ h → cel g ad S' a = cel g ad S a) (hc : cel g ad S' h = c) (hw : wfM S') (hP : va_P (rD g) cl2 ((Wd g ad S).set h (ad h, c)) H1) (hD : va_D A ((Wd g ad S).set h (ad h, c))) (hS : va_S A s.heap H1 locs1) : Rep g ad A s S' H1 locs1 := by
  rw [← Wd_set hl hn hne hc] at hP hD
  exact ⟨r.K, hP, hD, hS, hw⟩
end
section
variable {g : Gr} {ad : Nat → Nat} {A : Nat → Prop} {s : State} {S S' : MS} {H H1 : Heap} {locs locs1 : List Loc} {h : Nat}
theorem Rep.pI {j : Nat} {v : Int32} (r : Rep g ad A s S H locs) (e : qT S h = 10) (hf : F14 (upd (qI S h) j v) (qJ S h) (qR S h) ad = (F14 (qI S h) (qJ S h) (qR S h) ad).set j (.int v)) (hP : va_P (rD g) cl2 ((Wd g ad S).set h (ad h, .inr (13, (F14 (qI S h) (qJ S h) (qR S h) ad).set j (.int v)))) H1) (hD : va_D A ((Wd g ad S).set h (ad h, .inr (13, (F14 (qI S h) (qJ S h) (qR S h) ad).set j (.int v))))) (hS : va_S A s.heap H1 locs1) : Rep g ad A s (wI S h j v) H1 locs1 :=
  r.ups (h := h) (r.w.lt e (by decide) (by decide) (by decide)) rfl (fun a hne => cel_wI hne) (by rw [cel14 (S := wI S h j v) e, qI_self, ← hf]; rfl) (r.w.putI e (by decide)) hP hD hS
end
section
variable {g : Gr} {ad : Nat → Nat} {A : Nat → Prop} {s : State} {S S' : MS} {H H1 : Heap} {locs locs1 : List Loc} {h : Nat}
theorem Rep.pJ {j : Nat} {v : Int64} (r : Rep g ad A s S H locs) (e : qT S h = 10) (hf : F14 (qI S h) (vp_updL (qJ S h) j v) (qR S h) ad = (F14 (qI S h) (qJ S h) (qR S h) ad).set j (.long v)) (hP : va_P (rD g) cl2 ((Wd g ad S).set h (ad h, .inr (13, (F14 (qI S h) (qJ S h) (qR S h) ad).set j (.long v)))) H1) (hD : va_D A ((Wd g ad S).set h (ad h, .inr (13, (F14 (qI S h) (qJ S h) (qR S h) ad).set j (.long v))))) (hS : va_S A s.heap H1 locs1) : Rep g ad A s (wJ S h j v) H1 locs1 :=
  r.ups (h := h) (r.w.lt e (by decide) (by decide) (by decide)) rfl (fun a hne => cel_wJ hne) (by rw [cel14 (S := wJ S h j v) e, qJ_self, ← hf]; rfl) r.w hP hD hS
end
section
variable {g : Gr} {ad : Nat → Nat} {A : Nat → Prop} {s : State} {S S' : MS} {H H1 : Heap} {locs locs1 : List Loc} {h : Nat}
theorem Rep.pR {j : Nat} {v : Option Nat} (r : Rep g ad A s S H locs) (e : qT S h = 10) (hf : F14 (qI S h) (qJ S h) (va_up (qR S h) j v) ad = (F14 (qI S h) (qJ S h) (qR S h) ad).set j (vf ad v)) (hw : wfM (wR S h j v)) (hP : va_P (rD g) cl2 ((Wd g ad S).set h (ad h, .inr (13, (F14 (qI S h) (qJ S h) (qR S h) ad).set j (vf ad v)))) H1) (hD : va_D A ((Wd g ad S).set h (ad h, .inr (13, (F14 (qI S h) (qJ S h) (qR S h) ad).set j (vf ad v))))) (hS : va_S A s.heap H1 locs1) : Rep g ad A s (wR S h j v) H1 locs1 :=
  r.ups (h := h) (r.w.lt e (by decide) (by decide) (by decide)) rfl (fun a hne => cel_wR hne) (by rw [cel14 (S := wR S h j v) e, qR_self, ← hf]; rfl) hw hP hD hS
end
section
variable {g : Gr} {ad : Nat → Nat} {A : Nat → Prop} {s : State} {S S' : MS} {H H1 : Heap} {locs locs1 : List Loc} {h : Nat}
theorem Rep.pI3 {j : Nat} {v : Int32} (r : Rep g ad A s S H locs) (e : qT S h = 11) (hf : F13 (upd (qI S h) j v) (qJ S h) (qR S h) ad = (F13 (qI S h) (qJ S h) (qR S h) ad).set j (.int v)) (hP : va_P (rD g) cl2 ((Wd g ad S).set h (ad h, .inr (12, (F13 (qI S h) (qJ S h) (qR S h) ad).set j (.int v)))) H1) (hD : va_D A ((Wd g ad S).set h (ad h, .inr (12, (F13 (qI S h) (qJ S h) (qR S h) ad).set j (.int v))))) (hS : va_S A s.heap H1 locs1) : Rep g ad A s (wI S h j v) H1 locs1 :=
  r.ups (h := h) (r.w.lt e (by decide) (by decide) (by decide)) rfl (fun a hne => cel_wI hne) (by rw [cel13 (S := wI S h j v) e, qI_self, ← hf]; rfl) (r.w.putI e (by decide)) hP hD hS
end
section
variable {g : Gr} {ad : Nat → Nat} {A : Nat → Prop} {s : State} {S S' : MS} {H H1 : Heap} {locs locs1 : List Loc} {h : Nat}
theorem Rep.pR3 {j : Nat} {v : Option Nat} (r : Rep g ad A s S H locs) (e : qT S h = 11) (hf : F13 (qI S h) (qJ S h) (va_up (qR S h) j v) ad = (F13 (qI S h) (qJ S h) (qR S h) ad).set j (vf ad v)) (hw : wfM (wR S h j v)) (hP : va_P (rD g) cl2 ((Wd g ad S).set h (ad h, .inr (12, (F13 (qI S h) (qJ S h) (qR S h) ad).set j (vf ad v)))) H1) (hD : va_D A ((Wd g ad S).set h (ad h, .inr (12, (F13 (qI S h) (qJ S h) (qR S h) ad).set j (vf ad v))))) (hS : va_S A s.heap H1 locs1) : Rep g ad A s (wR S h j v) H1 locs1 :=
  r.ups (h := h) (r.w.lt e (by decide) (by decide) (by decide)) rfl (fun a hne => cel_wR hne) (by rw [cel13 (S := wR S h j v) e, qR_self, ← hf]; rfl) hw hP hD hS
end
section
variable {g : Gr} {ad : Nat → Nat} {A : Nat → Prop} {s : State} {S S' : MS} {H H1 : Heap} {locs locs1 : List Loc} {h : Nat}
theorem Rep.aI {i : Nat} {v : Int32} (r : Rep g ad A s S H locs) (e : qT S h = 2) (hP : va_P (rD g) cl2 ((Wd g ad S).set h (ad h, .inl (g.cI, qN S h, .inl (upd (qI S h) i v)))) H1) (hD : va_D A ((Wd g ad S).set h (ad h, .inl (g.cI, qN S h, .inl (upd (qI S h) i v))))) (hS : va_S A s.heap H1 locs1) : Rep g ad A s (wI S h i v) H1 locs1 :=
  Rep.ups r (h := h) (r.w.lt e (by decide) (by decide) (by decide)) rfl (fun a hne => cel_wI hne) (by rw [celI (S := wI S h i v) e, qI_self]; rfl) (r.w.putI e (by decide)) hP hD hS
end
section
variable {g : Gr} {ad : Nat → Nat} {A : Nat → Prop} {s : State} {S S' : MS} {H H1 : Heap} {locs locs1 : List Loc} {h : Nat}
theorem Rep.aB {i : Nat} {v : Int32} (r : Rep g ad A s S H locs) (e : qT S h = 1) (hP : va_P (rD g) cl2 ((Wd g ad S).set h (ad h, .inl (g.cB, qN S h, .inl (upd (qI S h) i v)))) H1) (hD : va_D A ((Wd g ad S).set h (ad h, .inl (g.cB, qN S h, .inl (upd (qI S h) i v))))) (hS : va_S A s.heap H1 locs1) : Rep g ad A s (wI S h i v) H1 locs1 :=
  Rep.ups r (h := h) (r.w.lt e (by decide) (by decide) (by decide)) rfl (fun a hne => cel_wI hne) (by rw [celB (S := wI S h i v) e, qI_self]; rfl) (r.w.putI e (by decide)) hP hD hS
end
section
variable {g : Gr} {ad : Nat → Nat} {A : Nat → Prop} {s : State} {S S' : MS} {H H1 : Heap} {locs locs1 : List Loc} {h : Nat}
theorem Rep.pIU {j : Nat} {v : Int32} (r : Rep g ad A s S H locs) (e : qT S h = 13) (hf : F16 (upd (qI S h) j v) (qR S h) ad = (F16 (qI S h) (qR S h) ad).set j (.int v)) (hP : va_P (rD g) cl2 ((Wd g ad S).set h (ad h, .inr (16, (F16 (qI S h) (qR S h) ad).set j (.int v)))) H1) (hD : va_D A ((Wd g ad S).set h (ad h, .inr (16, (F16 (qI S h) (qR S h) ad).set j (.int v))))) (hS : va_S A s.heap H1 locs1) : Rep g ad A s (wI S h j v) H1 locs1 :=
  r.ups (h := h) (r.w.lt e (by decide) (by decide) (by decide)) rfl (fun a hne => cel_wI hne) (by rw [celU (S := wI S h j v) e, qI_self, ← hf]; rfl) (r.w.putI e (by decide)) hP hD hS
end
section
variable {g : Gr} {ad : Nat → Nat} {A : Nat → Prop} {s : State} {S S' : MS} {H H1 : Heap} {locs locs1 : List Loc} {h : Nat}
theorem Rep.pRU {j : Nat} {v : Option Nat} (r : Rep g ad A s S H locs) (e : qT S h = 13) (hf : F16 (qI S h) (va_up (qR S h) j v) ad = (F16 (qI S h) (qR S h) ad).set j (vf ad v)) (hw : wfM (wR S h j v)) (hP : va_P (rD g) cl2 ((Wd g ad S).set h (ad h, .inr (16, (F16 (qI S h) (qR S h) ad).set j (vf ad v)))) H1) (hD : va_D A ((Wd g ad S).set h (ad h, .inr (16, (F16 (qI S h) (qR S h) ad).set j (vf ad v))))) (hS : va_S A s.heap H1 locs1) : Rep g ad A s (wR S h j v) H1 locs1 :=
  r.ups (h := h) (r.w.lt e (by decide) (by decide) (by decide)) rfl (fun a hne => cel_wR hne) (by rw [celU (S := wR S h j v) e, qR_self, ← hf]; rfl) hw hP hD hS
end
section
variable {g : Gr} {ad : Nat → Nat} {A : Nat → Prop} {s : State} {S S' : MS} {H H1 : Heap} {locs locs1 : List Loc} {h : Nat}
theorem Rep.atU (r : Rep g ad A s S H locs) (e : qT S h = 13) : (Wd g ad S)[h]? = some (ad h, .inr (16, F16 (qI S h) (qR S h) ad)) := Wd_at (r.w.lt e (by decide) (by decide) (by decide)) (celU e)
end
section
variable {g : Gr} {ad : Nat → Nat} {A : Nat → Prop} {s : State} {S S' : MS} {H H1 : Heap} {locs locs1 : List Loc} {h : Nat}
theorem Rep.pIT {j : Nat} {v : Int32} (r : Rep g ad A s S H locs) (e : qT S h = 24) (hf : F16 (upd (qI S h) j v) (qR S h) ad = (F16 (qI S h) (qR S h) ad).set j (.int v)) (hP : va_P (rD g) cl2 ((Wd g ad S).set h (ad h, .inr (15, (F16 (qI S h) (qR S h) ad).set j (.int v)))) H1) (hD : va_D A ((Wd g ad S).set h (ad h, .inr (15, (F16 (qI S h) (qR S h) ad).set j (.int v))))) (hS : va_S A s.heap H1 locs1) : Rep g ad A s (wI S h j v) H1 locs1 :=
  r.ups (h := h) (r.w.lt e (by decide) (by decide) (by decide)) rfl (fun a hne => cel_wI hne) (by rw [celT (S := wI S h j v) e, qI_self, ← hf]; rfl) (r.w.putI e (by decide)) hP hD hS
end
section
variable {g : Gr} {ad : Nat → Nat} {A : Nat → Prop} {s : State} {S S' : MS} {H H1 : Heap} {locs locs1 : List Loc} {h : Nat}
theorem Rep.pRT {j : Nat} {v : Option Nat} (r : Rep g ad A s S H locs) (e : qT S h = 24) (hf : F16 (qI S h) (va_up (qR S h) j v) ad = (F16 (qI S h) (qR S h) ad).set j (vf ad v)) (hw : wfM (wR S h j v)) (hP : va_P (rD g) cl2 ((Wd g ad S).set h (ad h, .inr (15, (F16 (qI S h) (qR S h) ad).set j (vf ad v)))) H1) (hD : va_D A ((Wd g ad S).set h (ad h, .inr (15, (F16 (qI S h) (qR S h) ad).set j (vf ad v))))) (hS : va_S A s.heap H1 locs1) : Rep g ad A s (wR S h j v) H1 locs1 :=
  r.ups (h := h) (r.w.lt e (by decide) (by decide) (by decide)) rfl (fun a hne => cel_wR hne) (by rw [celT (S := wR S h j v) e, qR_self, ← hf]; rfl) hw hP hD hS
end
section
variable {g : Gr} {ad : Nat → Nat} {A : Nat → Prop} {s : State} {S S' : MS} {H H1 : Heap} {locs locs1 : List Loc} {h : Nat}
theorem Rep.atT (r : Rep g ad A s S H locs) (e : qT S h = 24) : (Wd g ad S)[h]? = some (ad h, .inr (15, F16 (qI S h) (qR S h) ad)) := Wd_at (r.w.lt e (by decide) (by decide) (by decide)) (celT e)
end
section
variable {g : Gr} {ad : Nat → Nat} {A : Nat → Prop} {s : State} {S S' : MS} {H H1 : Heap} {locs locs1 : List Loc} {h : Nat}
theorem Rep.aV {i : Nat} {v : Int32} (r : Rep g ad A s S H locs) (e : qT S h = 21) (hP : va_P (rD g) cl2 ((Wd g ad S).set h (ad h, .inl (g.cB, qN S h, .inl (upd (qI S h) i v)))) H1) (hD : va_D A ((Wd g ad S).set h (ad h, .inl (g.cB, qN S h, .inl (upd (qI S h) i v))))) (hS : va_S A s.heap H1 locs1) : Rep g ad A s (wI S h i v) H1 locs1 :=
  Rep.ups r (h := h) (r.w.lt e (by decide) (by decide) (by decide)) rfl (fun a hne => cel_wI hne) (by rw [celV (S := wI S h i v) e, qI_self]; rfl) (r.w.putI e (by decide)) hP hD hS
end
section
variable {g : Gr} {ad : Nat → Nat} {A : Nat → Prop} {s : State} {S S' : MS} {H H1 : Heap} {locs locs1 : List Loc} {h : Nat}
theorem Rep.atV (r : Rep g ad A s S H locs) (e : qT S h = 21) : (Wd g ad S)[h]? = some (ad h, .inl (g.cB, qN S h, .inl (qI S h))) := Wd_at (r.w.lt e (by decide) (by decide) (by decide)) (celV e)
end
section
variable {g : Gr} {ad : Nat → Nat} {A : Nat → Prop} {s : State} {S S' : MS} {H H1 : Heap} {locs locs1 : List Loc} {h : Nat}
theorem Rep.cV {f : Nat → Int32} (r : Rep g ad A s S H locs) (e : qT S h = 21) (hP : va_P (rD g) cl2 ((Wd g ad S).set h (ad h, .inl (g.cB, qN S h, .inl f))) H1) (hD : va_D A ((Wd g ad S).set h (ad h, .inl (g.cB, qN S h, .inl f)))) (hS : va_S A s.heap H1 locs1) : Rep g ad A s (wC S h f) H1 locs1 :=
  r.ups (h := h) (r.w.lt e (by decide) (by decide) (by decide)) rfl (fun a hne => cel_eq (if_neg hne) rfl rfl rfl rfl) (by rw [celV (S := wC S h f) e, show qI (wC S h f) h = f from if_pos rfl]; rfl) (r.w.putC e (by decide)) hP hD hS
end
section
variable {g : Gr} {ad : Nat → Nat} {A : Nat → Prop} {s : State} {S S' : MS} {H H1 : Heap} {locs locs1 : List Loc} {h : Nat}
theorem Rep.aZ {i : Nat} {v : Int32} (r : Rep g ad A s S H locs) (e : qT S h = 3) (hP : va_P (rD g) cl2 ((Wd g ad S).set h (ad h, .inl (g.cZ, qN S h, .inl (upd (qI S h) i v)))) H1) (hD : va_D A ((Wd g ad S).set h (ad h, .inl (g.cZ, qN S h, .inl (upd (qI S h) i v))))) (hS : va_S A s.heap H1 locs1) : Rep g ad A s (wI S h i v) H1 locs1 :=
  Rep.ups r (h := h) (r.w.lt e (by decide) (by decide) (by decide)) rfl (fun a hne => cel_wI hne) (by rw [celZ (S := wI S h i v) e, qI_self]; rfl) (r.w.putI e (by decide)) hP hD hS
end
section
variable {g : Gr} {ad : Nat → Nat} {A : Nat → Prop} {s : State} {S S' : MS} {H H1 : Heap} {locs locs1 : List Loc} {h : Nat}
theorem Rep.aL {i : Nat} {v : Int64} (r : Rep g ad A s S H locs) (e : qT S h = 4) (hP : va_P (rD g) cl2 ((Wd g ad S).set h (ad h, .inl (g.cL, qN S h, .inr (.inl (vp_updL (qJ S h) i v))))) H1) (hD : va_D A ((Wd g ad S).set h (ad h, .inl (g.cL, qN S h, .inr (.inl (vp_updL (qJ S h) i v)))))) (hS : va_S A s.heap H1 locs1) : Rep g ad A s (wJ S h i v) H1 locs1 :=
  Rep.ups r (h := h) (r.w.lt e (by decide) (by decide) (by decide)) rfl (fun a hne => cel_wJ hne) (by rw [celL (S := wJ S h i v) e, qJ_self]; rfl) r.w hP hD hS
end
section
variable {g : Gr} {ad : Nat → Nat} {A : Nat → Prop} {s : State} {S S' : MS} {H H1 : Heap} {locs locs1 : List Loc} {h : Nat}
theorem Rep.aS {i b : Nat} (r : Rep g ad A s S H locs) (e : qT S h = 5) (hw : wfM (wR S h i (some b))) (hP : va_P (rD g) cl2 ((Wd g ad S).set h (ad h, .inl (g.cS, qN S h, .inr (.inr (.inr (.inr (va_up (fun i => (qR S h i).map ad) i (some (ad b))))))))) H1) (hD : va_D A ((Wd g ad S).set h (ad h, .inl (g.cS, qN S h, .inr (.inr (.inr (.inr (va_up (fun i => (qR S h i).map ad) i (some (ad b)))))))))) (hS : va_S A s.heap H1 locs1) : Rep g ad A s (wR S h i (some b)) H1 locs1 :=
  Rep.ups r (h := h) (r.w.lt e (by decide) (by decide) (by decide)) rfl (fun a hne => cel_wR hne) (by rw [celS (S := wR S h i (some b)) e, qR_self, up_map]; rfl) hw hP hD hS
end
section
variable {g : Gr} {ad : Nat → Nat} {A : Nat → Prop} {s : State} {S S' : MS} {H H1 : Heap} {locs locs1 : List Loc} {h : Nat}
theorem Rep.aF {i b : Nat} (r : Rep g ad A s S H locs) (e : qT S h = 6) (hw : wfM (wR S h i (some b))) (hP : va_P (rD g) cl2 ((Wd g ad S).set h (ad h, .inl (g.cF, qN S h, .inr (.inr (.inr (.inr (va_up (fun i => (qR S h i).map ad) i (some (ad b))))))))) H1) (hD : va_D A ((Wd g ad S).set h (ad h, .inl (g.cF, qN S h, .inr (.inr (.inr (.inr (va_up (fun i => (qR S h i).map ad) i (some (ad b)))))))))) (hS : va_S A s.heap H1 locs1) : Rep g ad A s (wR S h i (some b)) H1 locs1 :=
  Rep.ups r (h := h) (r.w.lt e (by decide) (by decide) (by decide)) rfl (fun a hne => cel_wR hne) (by rw [celF (S := wR S h i (some b)) e, qR_self, up_map]; rfl) hw hP hD hS
end
/-- the reference's environment: the texts of its own -/
def ogR (ad : Nat → Nat) (A : Nat → Prop) (U : State) (H : Heap) : Prop := jE A U H ∧ (∀ i : Nat, i < NTX → tx1 (ad (TXB + 2 * i)) (ad (TXB + 2 * i + 1)) (sLr.getD i 0) (fun k => (sBr.getD i []).getD k 0) A U H) ∧ ∀ x ∈ ldcL, vk_R RX14 x.1 x.2.1 (ad (TXB + 2 * x.2.2)) U
theorem ogR.pass {ad : Nat → Nat} {A B : Nat → Prop} {s U : State} {H : Heap} {locs : List Loc} (h : ogR ad A s s.heap) (hS : va_S A s.heap H locs) (hF : ∀ q, B q → A q) (hU : U.heap = H) (hW : s.WarmedH U.vm) : ogR ad B U U.heap := by
  rw [hU]
  exact ⟨((h.1.kept hS.2.1).narrow hF).moved hW.alike, fun i hi => (((h.2.1 i hi).kept hS.2.1).narrow hF).moved hW.alike, fun x hx => (h.2.2 x hx).warm hW⟩
theorem ogR.calling {ad : Nat → Nat} {A : Nat → Prop} {U : State} {f : JFrame} {mk : MethodId} {a : Array Value} (h : ogR ad A U U.heap) : ogR ad A (U.calling f mk a) (U.calling f mk a).heap := ⟨jE.moved (u := U) (Vm.Alike.refl U.vm) h.1, fun i hi => tx1.moved (u := U) (Vm.Alike.refl U.vm) (h.2.1 i hi), fun x hx => vk_R.same (u := U) rfl (h.2.2 x hx)⟩
def st_R (g : Gr) (ad : Nat → Nat) (sz : Nat) (S : MS) (U : State) : Prop := U.heap.size = sz ∧ va_P (rD g) cl2 (Wd g ad S) U.heap ∧ va_K (rD g) cl2 (tyR g) U ∧ va_D (fun _ => True) (Wd g ad S) ∧ ex U ∧ ogR ad (va_A (Wd g ad S) sz) U U.heap
theorem rblind {av : List Value} {g : Gr} {ad : Nat → Nat} {sz : Nat} {S : MS} : FrameBlind (va_Pc av (st_R g ad sz S)) := fun a U f mk q => by
  obtain ⟨q0, q1, qP, qK, qD, qE, qO⟩ := q
  exact ⟨q0, q1, qP, va_K.moved (u := U) (U := U.calling f mk a) (Vm.Alike.refl U.vm) qK, qD, ex_same (u := U) rfl qE, qO.calling⟩
theorem rfree {g : Gr} {ad : Nat → Nat} {A : Nat → Prop} {s : State} {S : MS} {H : Heap} {locs : List Loc} (r : Rep g ad A s S H locs) (hA : ∀ q, s.heap.size ≤ q → A q) : ∀ q, va_A (Wd g ad S) H.size q → A q := by
  intro q h
  rcases h with ⟨k, x, h⟩ | h
  · exact r.D.2 k (q, x) h
  · exact hA q (Nat.le_trans r.sS.1 h)
theorem rmk {av : List Value} {g : Gr} {ad : Nat → Nat} {A : Nat → Prop} {s U : State} {S : MS} {H : Heap} {locs : List Loc} (hU : U.heap = H) (hW : s.WarmedH U.vm) (r : Rep g ad A s S H locs) (hex : ex s) (hE : ogR ad A s s.heap) (hF : ∀ q, va_A (Wd g ad S) H.size q → A q) : va_Pc av (st_R g ad H.size S) av.toArray U :=
  ⟨rfl, by rw [hU], by rw [hU]; exact r.P, va_K.moved hW.alike r.K, r.D.weaken (fun _ _ _ _ => trivial), ex_warm hW hex, hE.pass r.sS hF hU hW⟩
/-- how a method leaves the heap -/
def qE (g : Gr) (ad : Nat → Nat) (A : Nat → Prop) (u : MS) (t : State) : Prop := va_P (rD g) cl2 (Wd g ad u) t.heap ∧ va_D A (Wd g ad u)
theorem Rep.call {g : Gr} {ad : Nat → Nat} {A : Nat → Prop} {s t : State} {S u : MS} {H H1 : Heap} {locs locs1 : List Loc} (r : Rep g ad A s S H locs) (ht : t.heap = H1) (hB : qE g ad (va_A (Wd g ad S) H.size) u t) (hw : wfM u) (hS : va_S A s.heap H1 locs1) (hF : ∀ q, va_A (Wd g ad S) H.size q → A q) : Rep g ad A s u H1 locs1 :=
  ⟨r.K, by rw [← ht]; exact hB.1, hB.2.weaken (fun _ _ _ h => hF _ h), hS, hw⟩
theorem Rep.atX {g : Gr} {ad : Nat → Nat} {A : Nat → Prop} {s : State} {S : MS} {H : Heap} {locs : List Loc} {h : Nat} (r : Rep g ad A s S H locs) (e : qT S h = 14) : (Wd g ad S)[h]? = some (ad h, .inr (14, [])) := Wd_at (r.w.lt e (by decide) (by decide) (by decide)) (celX e)
/-- what a text is, wherever it lies -/
theorem str_at {g : Gr} {ad : Nat → Nat} {A : Nat → Prop} {s U : State} {S : MS} {H : Heap} {locs : List Loc} {b : Nat} {args : Array Value} (hts : ∀ w ∈ tb2, w.before args s = true) (r : Rep g ad A s S H locs) (hE : ogR ad A s s.heap) (hA : ∀ q, s.heap.size ≤ q → A q) (e : qT S b = 12) (hU : U.heap = H) (hW : s.WarmedH U.vm) : tx1 (ad b) (ad (b + 1)) (qN S (b + 1)) (qI S (b + 1)) (Ns H.size) U U.heap := by
  rw [hU]
  rcases r.w.2.2.2.2.1 b e with ⟨h1, h2⟩ | ⟨i, hi, rfl⟩
  · have hb : (Wd g ad S)[b]? = some (ad b, .inr (15, [.ref (ad (b + 1)), .int 0, .int 0, .int 0])) := Wd_at (by omega) (celK e)
    have hv : (Wd g ad S)[b + 1]? = some (ad (b + 1), .inl (g.cB, qN S (b + 1), .inl (qI S (b + 1)))) := Wd_at h1 (celV h2)
    obtain ⟨o1, o2⟩ := of_world r.K r.P hb (C := RJ0) (T := TJ0) (N := 4) rfl
    have w : ∀ j, j < 2 → (Cond.laysFinal RJ0 (TJ0 j).1 (TJ0 j).2.1 (TJ0 j).2.2.1).before args s = true := fun j hj => by
      have : j = 0 ∨ j = 1 := by omega
      rcases this with rfl | rfl
      · exact hts _ (in2J0 _ (List.mem_of_getElem? (i := 0) rfl))
      · exact hts _ (in2J0 _ (List.mem_of_getElem? (i := 1) rfl))
    exact ⟨o1.moved hW.alike, (o2 1 _ (by decide) rfl (lays_ns (w 1 (by decide)))).moved hW.alike, (o2 0 _ (by decide) rfl (lays_ns (w 0 (by decide)))).moved hW.alike, (arr_world r.K r.P hv (t0 := 0) rfl).moved hW.alike⟩
  · obtain ⟨-, -, q1, q2⟩ := r.w.2.2.2.2.2.1 i hi
    rw [q1, show qI S (TXB + 2 * i + 1) = fun k => (sBr.getD i []).getD k 0 from funext q2]
    exact (((hE.2.1 i hi).kept r.sS.2.1).narrow (fun q h => hA q (Nat.le_trans r.sS.1 h))).moved hW.alike
theorem Rep.keep {g : Gr} {ad : Nat → Nat} {A : Nat → Prop} {s : State} {S : MS} {H H1 : Heap} {locs locs1 : List Loc} (r : Rep g ad A s S H locs) (hk : ∀ q : Nat, q < H.size → ¬ Ns H.size q → H1[q]? = H[q]?) (hS : va_S A s.heap H1 locs1) : Rep g ad A s S H1 locs1 :=
  ⟨r.K, r.P.kept (fun k x hx => hk x.1 (r.P k x hx).lt (fun q => absurd (r.P k x hx).lt (Nat.not_lt.mpr q))), r.D, hS, r.w⟩
theorem strR {g : Gr} {ad : Nat → Nat} {A : Nat → Prop} {s : State} {S : MS} {H : Heap} {locs : List Loc} {b : Nat} {args : Array Value} (hts : ∀ w ∈ tb2, w.before args s = true) (r : Rep g ad A s S H locs) (hE : ogR ad A s s.heap) (hA : ∀ q, s.heap.size ≤ q → A q) (e : qT S b = 12) : ∃ cell : Cell, H[ad b]? = some cell ∧ cell.vm.isStatics = false ∧ s.vm.findClass "java/lang/String" = some cell.cls := by
  rcases r.w.2.2.2.2.1 b e with ⟨h1, h2⟩ | ⟨i, hi, rfl⟩
  · exact va_recv r.K r.P (ci := 15) (q := (RJ0, TJ0, 4)) rfl (Wd_at (h := b) (by omega) (celK e))
  · exact va_Orecv (hE.2.1 i hi).1 r.sS
theorem any_str {g : Gr} {ad : Nat → Nat} {A : Nat → Prop} {s : State} {S : MS} {H : Heap} {locs : List Loc} {b : Nat} {args : Array Value} (hts : ∀ w ∈ tb2, w.before args s = true) (r : Rep g ad A s S H locs) (hE : ogR ad A s s.heap) (hA : ∀ q, s.heap.size ≤ q → A q) (e : qT S b = 12) : va_Any "java/lang/String" s H (ad b) := by
  have key := strR hts r hE hA e
  obtain ⟨cell, h1, h2, h3⟩ := key
  obtain ⟨kC, hkC, -⟩ := Vm.findClass_spec h3
  exact ⟨cell, h1, h2, ⟨kC, hkC⟩, fun comp h => by rw [Option.some.inj (h.symm.trans h3)]; exact va_asg _ _⟩
theorem tx1_same {b v n v2 n2 : Nat} {f f2 : Nat → Int32} {A : Nat → Prop} {U : State} {H : Heap} (h : tx1 b v n f A U H) (h' : tx1 b v2 n2 f2 A U H) (hn : n < 2147483648) (hn2 : n2 < 2147483648) : n = n2 ∧ ∀ j : Nat, j < n → f j = f2 j := by
  obtain ⟨-, -, ⟨cf, k, i, fd, ce, a1, a2, a3, a4, a5, a6⟩, c1, b1, b2, b3, b4, b5, b6, b7⟩ := h
  obtain ⟨-, -, ⟨cf', k', i', fd', ce', a1', a2', a3', a4', a5', a6'⟩, c1', b1', b2', b3', b4', b5', b6', b7'⟩ := h'
  rw [a1] at a1'
  cases a1'
  rw [a3] at a3'
  cases a3'
  rw [a5] at a5'
  cases a5'
  rw [b1] at b1'
  cases b1'
  have en : n = n2 := by
    have e := b5.symm.trans b5'
    have q := congrArg Int32.toInt e
    rw [show (Int32.ofNat n).toInt = n from nI_toInt hn, show (Int32.ofNat n2).toInt = n2 from nI_toInt hn2] at q
    omega
  subst en
  refine ⟨rfl, fun j hj => ?_⟩
  exact Value.int.inj (Option.some.inj ((b6 j hj).symm.trans (b6' j hj)))
def sEqP (S : MS) (a b : Nat) : Prop := qN S (a + 1) = qN S (b + 1) ∧ ∀ j : Nat, j < qN S (a + 1) → qI S (a + 1) j = qI S (b + 1) j
theorem sL_small : ∀ i : Nat, i < NTX → sLr.getD i 0 < 2147483648 := by decide
theorem wfM.len {S : MS} {b : Nat} (h : wfM S) (e : qT S b = 12) : qN S (b + 1) < 2147483648 := by
  rcases h.2.2.2.2.1 b e with ⟨h1, h2⟩ | ⟨i, hi, rfl⟩
  · exact h.2.2.2.2.2.2.2.1 _ h2
  · rw [(h.2.2.2.2.2.1 i hi).2.2.1]
    exact sL_small i hi
theorem wfM.txt {S : MS} (h : wfM S) {i : Nat} (hi : i < NTX) : qT S (TXB + 2 * i) = 12 := (h.2.2.2.2.2.1 i hi).1
noncomputable def sEq (S : MS) (a b : Nat) : Int32 := @ite Int32 (sEqP S a b) (Classical.propDecidable _) 1 0
theorem sEq_of {S : MS} {a b : Nat} {r : Int32} (h : ((qN S (a + 1) = qN S (b + 1) ∧ ∀ j : Nat, j < qN S (a + 1) → qI S (a + 1) j = qI S (b + 1) j) → r = 1) ∧ (¬ (qN S (a + 1) = qN S (b + 1) ∧ ∀ j : Nat, j < qN S (a + 1) → qI S (a + 1) j = qI S (b + 1) j) → r = 0)) : r = sEq S a b ∧ (r = 0 ∨ r = 1) := by
  unfold sEq
  by_cases e : sEqP S a b
  · rw [if_pos e]
    exact ⟨h.1 e, Or.inr (h.1 e)⟩
  · rw [if_neg e]
    exact ⟨h.2 e, Or.inl (h.2 e)⟩
