def NTC : Nat := 7
def sLc : List Nat := [4, 11, 9, 10, 9, 1, 4]
def sBc : List (List Int32) := [[67, 111, 100, 101], [68, 105, 118, 105, 100, 101, 69, 114, 114, 111, 114], [78, 117, 108, 108, 69, 114, 114, 111, 114], [73, 110, 100, 101, 120, 69, 114, 114, 111, 114], [83, 105, 122, 101, 69, 114, 114, 111, 114], [74], [67, 111, 100, 101]]
def ldcC : List (String × Nat × String × Nat) := [("CodeFoundry$Ops", 51, "DivideError", 1), ("CodeFoundry$Ops", 53, "NullError", 2), ("CodeFoundry$Ops", 55, "IndexError", 3), ("CodeFoundry$Ops", 57, "SizeError", 4), ("CodeFoundry$Reader", 218, "Code", 0), ("CodeFoundry$Writer", 77, "Code", 6), ("CodeFoundry$Writer", 117, "J", 5)]
theorem ldcC_0 : ("CodeFoundry$Ops", 51, "DivideError", 1) ∈ ldcC := List.mem_of_getElem? (i := 0) rfl
theorem ldcC_1 : ("CodeFoundry$Ops", 53, "NullError", 2) ∈ ldcC := List.mem_of_getElem? (i := 1) rfl
theorem ldcC_2 : ("CodeFoundry$Ops", 55, "IndexError", 3) ∈ ldcC := List.mem_of_getElem? (i := 2) rfl
theorem ldcC_3 : ("CodeFoundry$Ops", 57, "SizeError", 4) ∈ ldcC := List.mem_of_getElem? (i := 3) rfl
theorem ldcC_4 : ("CodeFoundry$Reader", 218, "Code", 0) ∈ ldcC := List.mem_of_getElem? (i := 4) rfl
theorem ldcC_5 : ("CodeFoundry$Writer", 77, "Code", 6) ∈ ldcC := List.mem_of_getElem? (i := 5) rfl
theorem ldcC_6 : ("CodeFoundry$Writer", 117, "J", 5) ∈ ldcC := List.mem_of_getElem? (i := 6) rfl
def stMG : List Int32 := [202, 254, 186, 190, 0, 0, 0, 49]
def stLN : List Int32 := [1, 1, 1, 1, 1, 1, 1, 1, 1, 1, 1, 0, 0, 0, 0, 0, 2, 3, 2, 3, 3, 2, 2, 0, 0, 2, 1, 1, 1, 1, 1, 1, 1, 1, 0, 0, 0, 0, 0, 0, 0, 0, 1, 1, 1, 1, 1, 0, 0, 0, 0, 0, 0, 0, 2, 2, 0, 0, 2, 1, 1, 1, 1, 1, 1, 1, 1, 0, 0, 0, 0, 0, 0, 0, 0, 1, 1, 1, 1, 1, 0, 0, 0, 0, 0, 0, 0, 1, 1, 1, 1, 0, 1, 0, 0, 1, 1, 1, 0, 0, 1, 1, 0, 0, 1, 1, 0, 0, 1, 1, 0, 0, 1, 1, 0, 0, 1, 1, 0, 0, 1, 1, 1, 1, 1, 1, 1, 1, 1, 1, 1, 1, 3, 1, 0, 0, 1, 0, 0, 0, 0, 0, 0, 0, 0, 1, 1, 1, 1, 0, 0, 0, 0, 3, 3, 3, 3, 3, 3, 3, 3, 3, 3, 3, 3, 3, 3, 3, 0, 0, 0, 0, 1, 1, 0, 0, 1, 1, 3, 3, 0, 0, 0, 0, 3, 0, 0, 0, 0, 0, 1, 1, 0, 0, 0, 0, 0, 0, 3, 3, 5, 0]
def stTK : List Int32 := [0, 0, 0, 0, 0, 0, 0, 0, 0, 0, 0, 0, 0, 0, 0, 0, 0, 0, 0, 0, 0, 0, 0, 0, 0, 0, 0, 0, 0, 0, 0, 0, 0, 0, 0, 0, 0, 0, 0, 0, 0, 0, 0, 0, 0, 0, 49, 0, 0, 0, 0, 0, 0, 0, 1, 2, 0, 0, 4, 0, 0, 0, 0, 0, 0, 0, 0, 0, 0, 0, 0, 0, 0, 0, 0, 0, 0, 0, 0, 785, 0, 0, 0, 0, 0, 0, 0, 6, 102, 6, 102, 0, 102, 0, 0, 102, 17, 34, 0, 0, 17, 34, 0, 0, 17, 34, 0, 0, 17, 34, 0, 0, 17, 34, 0, 0, 1, 2, 0, 0, 17, 33, 17, 33, 17, 33, 17, 34, 17, 34, 17, 34, 0, 1, 0, 0, 2, 0, 0, 0, 0, 0, 0, 0, 0, 1, 1, 1, 34, 0, 0, 0, 0, 1, 1, 1, 1, 1, 1, 17, 17, 17, 17, 17, 17, 68, 68, 0, 0, 0, 1, 1, 1, 2, 0, 0, 3, 0, 0, 0, 0, 0, 0, 0, 0, 0, 0, 0, 1, 0, 3, 5, 0, 0, 0, 0, 0, 0, 4, 4, 0, 0]
def stGV : List Int32 := [0, 7, 0, 0, 0, 0, 0, 0, 0, 0, 0, 0, 0, 0, 0, 0, 0, 1, 0, 0, 2, 1, 2, 0, 0, 4, 0, 0, 0, 0, 0, 0, 0, 0, 0, 0, 0, 0, 0, 0, 0, 0, 0, 0, 0, 0, 1, 0, 0, 0, 0, 0, 0, 0, 0, 0, 0, 0, 0, 0, 0, 0, 0, 0, 0, 0, 0, 0, 0, 0, 0, 0, 0, 0, 0, 0, 0, 0, 0, 0, 0, 0, 0, 0, 0, 0, 0, 0, 0, 0, 0, 0, 0, 0, 0, 0, 1, 2, 0, 0, 1, 2, 0, 0, 1, 2, 0, 0, 1, 2, 0, 0, 1, 2, 0, 0, 1, 2, 0, 0, 1, 2, 1, 2, 1, 2, 1, 2, 1, 2, 1, 2, 0, 2, 0, 0, 1, 0, 0, 0, 0, 0, 0, 0, 0, 1, 1, 1, 1, 0, 0, 0, 0, 0, 0, 0, 0, 0, 0, 0, 0, 0, 0, 0, 0, 0, 0, 0, 0, 0, 0, 0, 0, 0, 0, 0, 0, 0, 0, 0, 0, 0, 0, 0, 0, 0, 0, 0, 3, 0, 1, 0, 0, 0, 0, 0, 0, 0, 0, 0, 0, 0]
def FX0 (i : Nat → Int32) (j : Nat → Int64) (r : Nat → Option Nat) (ad : Nat → Nat) : List Value := [vf ad (r 0), .int (i 1)]
theorem FX0_s0 {i : Nat → Int32} {j : Nat → Int64} {r : Nat → Option Nat} {ad : Nat → Nat} {v : Option Nat} : FX0 i j (va_up r 0 v) ad = (FX0 i j r ad).set 0 (vf ad v) := rfl
theorem FX0_s1 {i : Nat → Int32} {j : Nat → Int64} {r : Nat → Option Nat} {ad : Nat → Nat} {v : Int32} : FX0 (upd i 1 v) j r ad = (FX0 i j r ad).set 1 (.int v) := rfl
def FX1 (i : Nat → Int32) (j : Nat → Int64) (r : Nat → Option Nat) (ad : Nat → Nat) : List Value := [vf ad (r 0), vf ad (r 1), vf ad (r 2), vf ad (r 3), vf ad (r 4), .int (i 5), .int (i 6), .int (i 7), vf ad (r 8), vf ad (r 9)]
theorem FX1_s0 {i : Nat → Int32} {j : Nat → Int64} {r : Nat → Option Nat} {ad : Nat → Nat} {v : Option Nat} : FX1 i j (va_up r 0 v) ad = (FX1 i j r ad).set 0 (vf ad v) := rfl
theorem FX1_s1 {i : Nat → Int32} {j : Nat → Int64} {r : Nat → Option Nat} {ad : Nat → Nat} {v : Option Nat} : FX1 i j (va_up r 1 v) ad = (FX1 i j r ad).set 1 (vf ad v) := rfl
theorem FX1_s2 {i : Nat → Int32} {j : Nat → Int64} {r : Nat → Option Nat} {ad : Nat → Nat} {v : Option Nat} : FX1 i j (va_up r 2 v) ad = (FX1 i j r ad).set 2 (vf ad v) := rfl
theorem FX1_s3 {i : Nat → Int32} {j : Nat → Int64} {r : Nat → Option Nat} {ad : Nat → Nat} {v : Option Nat} : FX1 i j (va_up r 3 v) ad = (FX1 i j r ad).set 3 (vf ad v) := rfl
theorem FX1_s4 {i : Nat → Int32} {j : Nat → Int64} {r : Nat → Option Nat} {ad : Nat → Nat} {v : Option Nat} : FX1 i j (va_up r 4 v) ad = (FX1 i j r ad).set 4 (vf ad v) := rfl
theorem FX1_s5 {i : Nat → Int32} {j : Nat → Int64} {r : Nat → Option Nat} {ad : Nat → Nat} {v : Int32} : FX1 (upd i 5 v) j r ad = (FX1 i j r ad).set 5 (.int v) := rfl
theorem FX1_s6 {i : Nat → Int32} {j : Nat → Int64} {r : Nat → Option Nat} {ad : Nat → Nat} {v : Int32} : FX1 (upd i 6 v) j r ad = (FX1 i j r ad).set 6 (.int v) := rfl
theorem FX1_s7 {i : Nat → Int32} {j : Nat → Int64} {r : Nat → Option Nat} {ad : Nat → Nat} {v : Int32} : FX1 (upd i 7 v) j r ad = (FX1 i j r ad).set 7 (.int v) := rfl
theorem FX1_s8 {i : Nat → Int32} {j : Nat → Int64} {r : Nat → Option Nat} {ad : Nat → Nat} {v : Option Nat} : FX1 i j (va_up r 8 v) ad = (FX1 i j r ad).set 8 (vf ad v) := rfl
theorem FX1_s9 {i : Nat → Int32} {j : Nat → Int64} {r : Nat → Option Nat} {ad : Nat → Nat} {v : Option Nat} : FX1 i j (va_up r 9 v) ad = (FX1 i j r ad).set 9 (vf ad v) := rfl
def FX2 (i : Nat → Int32) (j : Nat → Int64) (r : Nat → Option Nat) (ad : Nat → Nat) : List Value := [vf ad (r 0), .int (i 1), .int (i 2), .int (i 3), .int (i 4), .int (i 5), .int (i 6), vf ad (r 7), .int (i 8), .int (i 9), .long (j 10), .int (i 11)]
theorem FX2_s0 {i : Nat → Int32} {j : Nat → Int64} {r : Nat → Option Nat} {ad : Nat → Nat} {v : Option Nat} : FX2 i j (va_up r 0 v) ad = (FX2 i j r ad).set 0 (vf ad v) := rfl
theorem FX2_s1 {i : Nat → Int32} {j : Nat → Int64} {r : Nat → Option Nat} {ad : Nat → Nat} {v : Int32} : FX2 (upd i 1 v) j r ad = (FX2 i j r ad).set 1 (.int v) := rfl
theorem FX2_s2 {i : Nat → Int32} {j : Nat → Int64} {r : Nat → Option Nat} {ad : Nat → Nat} {v : Int32} : FX2 (upd i 2 v) j r ad = (FX2 i j r ad).set 2 (.int v) := rfl
theorem FX2_s3 {i : Nat → Int32} {j : Nat → Int64} {r : Nat → Option Nat} {ad : Nat → Nat} {v : Int32} : FX2 (upd i 3 v) j r ad = (FX2 i j r ad).set 3 (.int v) := rfl
theorem FX2_s4 {i : Nat → Int32} {j : Nat → Int64} {r : Nat → Option Nat} {ad : Nat → Nat} {v : Int32} : FX2 (upd i 4 v) j r ad = (FX2 i j r ad).set 4 (.int v) := rfl
theorem FX2_s5 {i : Nat → Int32} {j : Nat → Int64} {r : Nat → Option Nat} {ad : Nat → Nat} {v : Int32} : FX2 (upd i 5 v) j r ad = (FX2 i j r ad).set 5 (.int v) := rfl
theorem FX2_s6 {i : Nat → Int32} {j : Nat → Int64} {r : Nat → Option Nat} {ad : Nat → Nat} {v : Int32} : FX2 (upd i 6 v) j r ad = (FX2 i j r ad).set 6 (.int v) := rfl
theorem FX2_s7 {i : Nat → Int32} {j : Nat → Int64} {r : Nat → Option Nat} {ad : Nat → Nat} {v : Option Nat} : FX2 i j (va_up r 7 v) ad = (FX2 i j r ad).set 7 (vf ad v) := rfl
theorem FX2_s8 {i : Nat → Int32} {j : Nat → Int64} {r : Nat → Option Nat} {ad : Nat → Nat} {v : Int32} : FX2 (upd i 8 v) j r ad = (FX2 i j r ad).set 8 (.int v) := rfl
theorem FX2_s9 {i : Nat → Int32} {j : Nat → Int64} {r : Nat → Option Nat} {ad : Nat → Nat} {v : Int32} : FX2 (upd i 9 v) j r ad = (FX2 i j r ad).set 9 (.int v) := rfl
theorem FX2_s10 {i : Nat → Int32} {j : Nat → Int64} {r : Nat → Option Nat} {ad : Nat → Nat} {v : Int64} : FX2 i (vp_updL j 10 v) r ad = (FX2 i j r ad).set 10 (.long v) := rfl
theorem FX2_s11 {i : Nat → Int32} {j : Nat → Int64} {r : Nat → Option Nat} {ad : Nat → Nat} {v : Int32} : FX2 (upd i 11 v) j r ad = (FX2 i j r ad).set 11 (.int v) := rfl
def FX3 (i : Nat → Int32) (j : Nat → Int64) (r : Nat → Option Nat) (ad : Nat → Nat) : List Value := [vf ad (r 0), .int (i 1), vf ad (r 2), vf ad (r 3), vf ad (r 4), vf ad (r 5), vf ad (r 6), vf ad (r 7), vf ad (r 8), vf ad (r 9), .int (i 10), vf ad (r 11), vf ad (r 12), vf ad (r 13), vf ad (r 14), vf ad (r 15)]
theorem FX3_s0 {i : Nat → Int32} {j : Nat → Int64} {r : Nat → Option Nat} {ad : Nat → Nat} {v : Option Nat} : FX3 i j (va_up r 0 v) ad = (FX3 i j r ad).set 0 (vf ad v) := rfl
theorem FX3_s1 {i : Nat → Int32} {j : Nat → Int64} {r : Nat → Option Nat} {ad : Nat → Nat} {v : Int32} : FX3 (upd i 1 v) j r ad = (FX3 i j r ad).set 1 (.int v) := rfl
theorem FX3_s2 {i : Nat → Int32} {j : Nat → Int64} {r : Nat → Option Nat} {ad : Nat → Nat} {v : Option Nat} : FX3 i j (va_up r 2 v) ad = (FX3 i j r ad).set 2 (vf ad v) := rfl
theorem FX3_s3 {i : Nat → Int32} {j : Nat → Int64} {r : Nat → Option Nat} {ad : Nat → Nat} {v : Option Nat} : FX3 i j (va_up r 3 v) ad = (FX3 i j r ad).set 3 (vf ad v) := rfl
theorem FX3_s4 {i : Nat → Int32} {j : Nat → Int64} {r : Nat → Option Nat} {ad : Nat → Nat} {v : Option Nat} : FX3 i j (va_up r 4 v) ad = (FX3 i j r ad).set 4 (vf ad v) := rfl
theorem FX3_s5 {i : Nat → Int32} {j : Nat → Int64} {r : Nat → Option Nat} {ad : Nat → Nat} {v : Option Nat} : FX3 i j (va_up r 5 v) ad = (FX3 i j r ad).set 5 (vf ad v) := rfl
theorem FX3_s6 {i : Nat → Int32} {j : Nat → Int64} {r : Nat → Option Nat} {ad : Nat → Nat} {v : Option Nat} : FX3 i j (va_up r 6 v) ad = (FX3 i j r ad).set 6 (vf ad v) := rfl
theorem FX3_s7 {i : Nat → Int32} {j : Nat → Int64} {r : Nat → Option Nat} {ad : Nat → Nat} {v : Option Nat} : FX3 i j (va_up r 7 v) ad = (FX3 i j r ad).set 7 (vf ad v) := rfl
theorem FX3_s8 {i : Nat → Int32} {j : Nat → Int64} {r : Nat → Option Nat} {ad : Nat → Nat} {v : Option Nat} : FX3 i j (va_up r 8 v) ad = (FX3 i j r ad).set 8 (vf ad v) := rfl
theorem FX3_s9 {i : Nat → Int32} {j : Nat → Int64} {r : Nat → Option Nat} {ad : Nat → Nat} {v : Option Nat} : FX3 i j (va_up r 9 v) ad = (FX3 i j r ad).set 9 (vf ad v) := rfl
theorem FX3_s10 {i : Nat → Int32} {j : Nat → Int64} {r : Nat → Option Nat} {ad : Nat → Nat} {v : Int32} : FX3 (upd i 10 v) j r ad = (FX3 i j r ad).set 10 (.int v) := rfl
theorem FX3_s11 {i : Nat → Int32} {j : Nat → Int64} {r : Nat → Option Nat} {ad : Nat → Nat} {v : Option Nat} : FX3 i j (va_up r 11 v) ad = (FX3 i j r ad).set 11 (vf ad v) := rfl
theorem FX3_s12 {i : Nat → Int32} {j : Nat → Int64} {r : Nat → Option Nat} {ad : Nat → Nat} {v : Option Nat} : FX3 i j (va_up r 12 v) ad = (FX3 i j r ad).set 12 (vf ad v) := rfl
theorem FX3_s13 {i : Nat → Int32} {j : Nat → Int64} {r : Nat → Option Nat} {ad : Nat → Nat} {v : Option Nat} : FX3 i j (va_up r 13 v) ad = (FX3 i j r ad).set 13 (vf ad v) := rfl
theorem FX3_s14 {i : Nat → Int32} {j : Nat → Int64} {r : Nat → Option Nat} {ad : Nat → Nat} {v : Option Nat} : FX3 i j (va_up r 14 v) ad = (FX3 i j r ad).set 14 (vf ad v) := rfl
theorem FX3_s15 {i : Nat → Int32} {j : Nat → Int64} {r : Nat → Option Nat} {ad : Nat → Nat} {v : Option Nat} : FX3 i j (va_up r 15 v) ad = (FX3 i j r ad).set 15 (vf ad v) := rfl
def FX4 (i : Nat → Int32) (j : Nat → Int64) (r : Nat → Option Nat) (ad : Nat → Nat) : List Value := [vf ad (r 0), vf ad (r 1), vf ad (r 2), vf ad (r 3), vf ad (r 4), .int (i 5), .int (i 6), .int (i 7)]
theorem FX4_s0 {i : Nat → Int32} {j : Nat → Int64} {r : Nat → Option Nat} {ad : Nat → Nat} {v : Option Nat} : FX4 i j (va_up r 0 v) ad = (FX4 i j r ad).set 0 (vf ad v) := rfl
theorem FX4_s1 {i : Nat → Int32} {j : Nat → Int64} {r : Nat → Option Nat} {ad : Nat → Nat} {v : Option Nat} : FX4 i j (va_up r 1 v) ad = (FX4 i j r ad).set 1 (vf ad v) := rfl
theorem FX4_s2 {i : Nat → Int32} {j : Nat → Int64} {r : Nat → Option Nat} {ad : Nat → Nat} {v : Option Nat} : FX4 i j (va_up r 2 v) ad = (FX4 i j r ad).set 2 (vf ad v) := rfl
theorem FX4_s3 {i : Nat → Int32} {j : Nat → Int64} {r : Nat → Option Nat} {ad : Nat → Nat} {v : Option Nat} : FX4 i j (va_up r 3 v) ad = (FX4 i j r ad).set 3 (vf ad v) := rfl
theorem FX4_s4 {i : Nat → Int32} {j : Nat → Int64} {r : Nat → Option Nat} {ad : Nat → Nat} {v : Option Nat} : FX4 i j (va_up r 4 v) ad = (FX4 i j r ad).set 4 (vf ad v) := rfl
theorem FX4_s5 {i : Nat → Int32} {j : Nat → Int64} {r : Nat → Option Nat} {ad : Nat → Nat} {v : Int32} : FX4 (upd i 5 v) j r ad = (FX4 i j r ad).set 5 (.int v) := rfl
theorem FX4_s6 {i : Nat → Int32} {j : Nat → Int64} {r : Nat → Option Nat} {ad : Nat → Nat} {v : Int32} : FX4 (upd i 6 v) j r ad = (FX4 i j r ad).set 6 (.int v) := rfl
theorem FX4_s7 {i : Nat → Int32} {j : Nat → Int64} {r : Nat → Option Nat} {ad : Nat → Nat} {v : Int32} : FX4 (upd i 7 v) j r ad = (FX4 i j r ad).set 7 (.int v) := rfl
def FX5 (i : Nat → Int32) (j : Nat → Int64) (r : Nat → Option Nat) (ad : Nat → Nat) : List Value := [vf ad (r 0), vf ad (r 1), vf ad (r 2), .int (i 3), vf ad (r 4), .int (i 5), vf ad (r 6), .int (i 7), vf ad (r 8), vf ad (r 9), vf ad (r 10), .int (i 11), vf ad (r 12), .int (i 13), .int (i 14), .int (i 15), .long (j 16), .int (i 17), .int (i 18), .int (i 19)]
theorem FX5_s0 {i : Nat → Int32} {j : Nat → Int64} {r : Nat → Option Nat} {ad : Nat → Nat} {v : Option Nat} : FX5 i j (va_up r 0 v) ad = (FX5 i j r ad).set 0 (vf ad v) := rfl
theorem FX5_s1 {i : Nat → Int32} {j : Nat → Int64} {r : Nat → Option Nat} {ad : Nat → Nat} {v : Option Nat} : FX5 i j (va_up r 1 v) ad = (FX5 i j r ad).set 1 (vf ad v) := rfl
theorem FX5_s2 {i : Nat → Int32} {j : Nat → Int64} {r : Nat → Option Nat} {ad : Nat → Nat} {v : Option Nat} : FX5 i j (va_up r 2 v) ad = (FX5 i j r ad).set 2 (vf ad v) := rfl
theorem FX5_s3 {i : Nat → Int32} {j : Nat → Int64} {r : Nat → Option Nat} {ad : Nat → Nat} {v : Int32} : FX5 (upd i 3 v) j r ad = (FX5 i j r ad).set 3 (.int v) := rfl
theorem FX5_s4 {i : Nat → Int32} {j : Nat → Int64} {r : Nat → Option Nat} {ad : Nat → Nat} {v : Option Nat} : FX5 i j (va_up r 4 v) ad = (FX5 i j r ad).set 4 (vf ad v) := rfl
theorem FX5_s5 {i : Nat → Int32} {j : Nat → Int64} {r : Nat → Option Nat} {ad : Nat → Nat} {v : Int32} : FX5 (upd i 5 v) j r ad = (FX5 i j r ad).set 5 (.int v) := rfl
theorem FX5_s6 {i : Nat → Int32} {j : Nat → Int64} {r : Nat → Option Nat} {ad : Nat → Nat} {v : Option Nat} : FX5 i j (va_up r 6 v) ad = (FX5 i j r ad).set 6 (vf ad v) := rfl
theorem FX5_s7 {i : Nat → Int32} {j : Nat → Int64} {r : Nat → Option Nat} {ad : Nat → Nat} {v : Int32} : FX5 (upd i 7 v) j r ad = (FX5 i j r ad).set 7 (.int v) := rfl
theorem FX5_s8 {i : Nat → Int32} {j : Nat → Int64} {r : Nat → Option Nat} {ad : Nat → Nat} {v : Option Nat} : FX5 i j (va_up r 8 v) ad = (FX5 i j r ad).set 8 (vf ad v) := rfl
theorem FX5_s9 {i : Nat → Int32} {j : Nat → Int64} {r : Nat → Option Nat} {ad : Nat → Nat} {v : Option Nat} : FX5 i j (va_up r 9 v) ad = (FX5 i j r ad).set 9 (vf ad v) := rfl
theorem FX5_s10 {i : Nat → Int32} {j : Nat → Int64} {r : Nat → Option Nat} {ad : Nat → Nat} {v : Option Nat} : FX5 i j (va_up r 10 v) ad = (FX5 i j r ad).set 10 (vf ad v) := rfl
theorem FX5_s11 {i : Nat → Int32} {j : Nat → Int64} {r : Nat → Option Nat} {ad : Nat → Nat} {v : Int32} : FX5 (upd i 11 v) j r ad = (FX5 i j r ad).set 11 (.int v) := rfl
theorem FX5_s12 {i : Nat → Int32} {j : Nat → Int64} {r : Nat → Option Nat} {ad : Nat → Nat} {v : Option Nat} : FX5 i j (va_up r 12 v) ad = (FX5 i j r ad).set 12 (vf ad v) := rfl
theorem FX5_s13 {i : Nat → Int32} {j : Nat → Int64} {r : Nat → Option Nat} {ad : Nat → Nat} {v : Int32} : FX5 (upd i 13 v) j r ad = (FX5 i j r ad).set 13 (.int v) := rfl
theorem FX5_s14 {i : Nat → Int32} {j : Nat → Int64} {r : Nat → Option Nat} {ad : Nat → Nat} {v : Int32} : FX5 (upd i 14 v) j r ad = (FX5 i j r ad).set 14 (.int v) := rfl
theorem FX5_s15 {i : Nat → Int32} {j : Nat → Int64} {r : Nat → Option Nat} {ad : Nat → Nat} {v : Int32} : FX5 (upd i 15 v) j r ad = (FX5 i j r ad).set 15 (.int v) := rfl
theorem FX5_s16 {i : Nat → Int32} {j : Nat → Int64} {r : Nat → Option Nat} {ad : Nat → Nat} {v : Int64} : FX5 i (vp_updL j 16 v) r ad = (FX5 i j r ad).set 16 (.long v) := rfl
theorem FX5_s17 {i : Nat → Int32} {j : Nat → Int64} {r : Nat → Option Nat} {ad : Nat → Nat} {v : Int32} : FX5 (upd i 17 v) j r ad = (FX5 i j r ad).set 17 (.int v) := rfl
theorem FX5_s18 {i : Nat → Int32} {j : Nat → Int64} {r : Nat → Option Nat} {ad : Nat → Nat} {v : Int32} : FX5 (upd i 18 v) j r ad = (FX5 i j r ad).set 18 (.int v) := rfl
theorem FX5_s19 {i : Nat → Int32} {j : Nat → Int64} {r : Nat → Option Nat} {ad : Nat → Nat} {v : Int32} : FX5 (upd i 19 v) j r ad = (FX5 i j r ad).set 19 (.int v) := rfl
def FX7 (i : Nat → Int32) (j : Nat → Int64) (r : Nat → Option Nat) (ad : Nat → Nat) : List Value := [vf ad (r 0), .int (i 1), .int (i 2), .int (i 3), vf ad (r 4), .int (i 5), .int (i 6), .int (i 7), .int (i 8), vf ad (r 9), vf ad (r 10), vf ad (r 11), .int (i 12), .int (i 13), .int (i 14), .int (i 15), .int (i 16)]
theorem FX7_s0 {i : Nat → Int32} {j : Nat → Int64} {r : Nat → Option Nat} {ad : Nat → Nat} {v : Option Nat} : FX7 i j (va_up r 0 v) ad = (FX7 i j r ad).set 0 (vf ad v) := rfl
theorem FX7_s1 {i : Nat → Int32} {j : Nat → Int64} {r : Nat → Option Nat} {ad : Nat → Nat} {v : Int32} : FX7 (upd i 1 v) j r ad = (FX7 i j r ad).set 1 (.int v) := rfl
theorem FX7_s2 {i : Nat → Int32} {j : Nat → Int64} {r : Nat → Option Nat} {ad : Nat → Nat} {v : Int32} : FX7 (upd i 2 v) j r ad = (FX7 i j r ad).set 2 (.int v) := rfl
theorem FX7_s3 {i : Nat → Int32} {j : Nat → Int64} {r : Nat → Option Nat} {ad : Nat → Nat} {v : Int32} : FX7 (upd i 3 v) j r ad = (FX7 i j r ad).set 3 (.int v) := rfl
theorem FX7_s4 {i : Nat → Int32} {j : Nat → Int64} {r : Nat → Option Nat} {ad : Nat → Nat} {v : Option Nat} : FX7 i j (va_up r 4 v) ad = (FX7 i j r ad).set 4 (vf ad v) := rfl
theorem FX7_s5 {i : Nat → Int32} {j : Nat → Int64} {r : Nat → Option Nat} {ad : Nat → Nat} {v : Int32} : FX7 (upd i 5 v) j r ad = (FX7 i j r ad).set 5 (.int v) := rfl
theorem FX7_s6 {i : Nat → Int32} {j : Nat → Int64} {r : Nat → Option Nat} {ad : Nat → Nat} {v : Int32} : FX7 (upd i 6 v) j r ad = (FX7 i j r ad).set 6 (.int v) := rfl
theorem FX7_s7 {i : Nat → Int32} {j : Nat → Int64} {r : Nat → Option Nat} {ad : Nat → Nat} {v : Int32} : FX7 (upd i 7 v) j r ad = (FX7 i j r ad).set 7 (.int v) := rfl
theorem FX7_s8 {i : Nat → Int32} {j : Nat → Int64} {r : Nat → Option Nat} {ad : Nat → Nat} {v : Int32} : FX7 (upd i 8 v) j r ad = (FX7 i j r ad).set 8 (.int v) := rfl
theorem FX7_s9 {i : Nat → Int32} {j : Nat → Int64} {r : Nat → Option Nat} {ad : Nat → Nat} {v : Option Nat} : FX7 i j (va_up r 9 v) ad = (FX7 i j r ad).set 9 (vf ad v) := rfl
theorem FX7_s10 {i : Nat → Int32} {j : Nat → Int64} {r : Nat → Option Nat} {ad : Nat → Nat} {v : Option Nat} : FX7 i j (va_up r 10 v) ad = (FX7 i j r ad).set 10 (vf ad v) := rfl
theorem FX7_s11 {i : Nat → Int32} {j : Nat → Int64} {r : Nat → Option Nat} {ad : Nat → Nat} {v : Option Nat} : FX7 i j (va_up r 11 v) ad = (FX7 i j r ad).set 11 (vf ad v) := rfl
theorem FX7_s12 {i : Nat → Int32} {j : Nat → Int64} {r : Nat → Option Nat} {ad : Nat → Nat} {v : Int32} : FX7 (upd i 12 v) j r ad = (FX7 i j r ad).set 12 (.int v) := rfl
theorem FX7_s13 {i : Nat → Int32} {j : Nat → Int64} {r : Nat → Option Nat} {ad : Nat → Nat} {v : Int32} : FX7 (upd i 13 v) j r ad = (FX7 i j r ad).set 13 (.int v) := rfl
theorem FX7_s14 {i : Nat → Int32} {j : Nat → Int64} {r : Nat → Option Nat} {ad : Nat → Nat} {v : Int32} : FX7 (upd i 14 v) j r ad = (FX7 i j r ad).set 14 (.int v) := rfl
theorem FX7_s15 {i : Nat → Int32} {j : Nat → Int64} {r : Nat → Option Nat} {ad : Nat → Nat} {v : Int32} : FX7 (upd i 15 v) j r ad = (FX7 i j r ad).set 15 (.int v) := rfl
theorem FX7_s16 {i : Nat → Int32} {j : Nat → Int64} {r : Nat → Option Nat} {ad : Nat → Nat} {v : Int32} : FX7 (upd i 16 v) j r ad = (FX7 i j r ad).set 16 (.int v) := rfl
def FX8 (i : Nat → Int32) (j : Nat → Int64) (r : Nat → Option Nat) (ad : Nat → Nat) : List Value := [vf ad (r 0), vf ad (r 1), .int (i 2), vf ad (r 3), .int (i 4), vf ad (r 5), vf ad (r 6), vf ad (r 7), vf ad (r 8), .int (i 9), .int (i 10), .int (i 11), vf ad (r 12), vf ad (r 13), vf ad (r 14)]
theorem FX8_s0 {i : Nat → Int32} {j : Nat → Int64} {r : Nat → Option Nat} {ad : Nat → Nat} {v : Option Nat} : FX8 i j (va_up r 0 v) ad = (FX8 i j r ad).set 0 (vf ad v) := rfl
theorem FX8_s1 {i : Nat → Int32} {j : Nat → Int64} {r : Nat → Option Nat} {ad : Nat → Nat} {v : Option Nat} : FX8 i j (va_up r 1 v) ad = (FX8 i j r ad).set 1 (vf ad v) := rfl
theorem FX8_s2 {i : Nat → Int32} {j : Nat → Int64} {r : Nat → Option Nat} {ad : Nat → Nat} {v : Int32} : FX8 (upd i 2 v) j r ad = (FX8 i j r ad).set 2 (.int v) := rfl
theorem FX8_s3 {i : Nat → Int32} {j : Nat → Int64} {r : Nat → Option Nat} {ad : Nat → Nat} {v : Option Nat} : FX8 i j (va_up r 3 v) ad = (FX8 i j r ad).set 3 (vf ad v) := rfl
theorem FX8_s4 {i : Nat → Int32} {j : Nat → Int64} {r : Nat → Option Nat} {ad : Nat → Nat} {v : Int32} : FX8 (upd i 4 v) j r ad = (FX8 i j r ad).set 4 (.int v) := rfl
theorem FX8_s5 {i : Nat → Int32} {j : Nat → Int64} {r : Nat → Option Nat} {ad : Nat → Nat} {v : Option Nat} : FX8 i j (va_up r 5 v) ad = (FX8 i j r ad).set 5 (vf ad v) := rfl
theorem FX8_s6 {i : Nat → Int32} {j : Nat → Int64} {r : Nat → Option Nat} {ad : Nat → Nat} {v : Option Nat} : FX8 i j (va_up r 6 v) ad = (FX8 i j r ad).set 6 (vf ad v) := rfl
theorem FX8_s7 {i : Nat → Int32} {j : Nat → Int64} {r : Nat → Option Nat} {ad : Nat → Nat} {v : Option Nat} : FX8 i j (va_up r 7 v) ad = (FX8 i j r ad).set 7 (vf ad v) := rfl
theorem FX8_s8 {i : Nat → Int32} {j : Nat → Int64} {r : Nat → Option Nat} {ad : Nat → Nat} {v : Option Nat} : FX8 i j (va_up r 8 v) ad = (FX8 i j r ad).set 8 (vf ad v) := rfl
theorem FX8_s9 {i : Nat → Int32} {j : Nat → Int64} {r : Nat → Option Nat} {ad : Nat → Nat} {v : Int32} : FX8 (upd i 9 v) j r ad = (FX8 i j r ad).set 9 (.int v) := rfl
theorem FX8_s10 {i : Nat → Int32} {j : Nat → Int64} {r : Nat → Option Nat} {ad : Nat → Nat} {v : Int32} : FX8 (upd i 10 v) j r ad = (FX8 i j r ad).set 10 (.int v) := rfl
theorem FX8_s11 {i : Nat → Int32} {j : Nat → Int64} {r : Nat → Option Nat} {ad : Nat → Nat} {v : Int32} : FX8 (upd i 11 v) j r ad = (FX8 i j r ad).set 11 (.int v) := rfl
theorem FX8_s12 {i : Nat → Int32} {j : Nat → Int64} {r : Nat → Option Nat} {ad : Nat → Nat} {v : Option Nat} : FX8 i j (va_up r 12 v) ad = (FX8 i j r ad).set 12 (vf ad v) := rfl
theorem FX8_s13 {i : Nat → Int32} {j : Nat → Int64} {r : Nat → Option Nat} {ad : Nat → Nat} {v : Option Nat} : FX8 i j (va_up r 13 v) ad = (FX8 i j r ad).set 13 (vf ad v) := rfl
theorem FX8_s14 {i : Nat → Int32} {j : Nat → Int64} {r : Nat → Option Nat} {ad : Nat → Nat} {v : Option Nat} : FX8 i j (va_up r 14 v) ad = (FX8 i j r ad).set 14 (vf ad v) := rfl
def FX9 (i : Nat → Int32) (j : Nat → Int64) (r : Nat → Option Nat) (ad : Nat → Nat) : List Value := [vf ad (r 0), vf ad (r 1), vf ad (r 2), vf ad (r 3), vf ad (r 4), vf ad (r 5)]
theorem FX9_s0 {i : Nat → Int32} {j : Nat → Int64} {r : Nat → Option Nat} {ad : Nat → Nat} {v : Option Nat} : FX9 i j (va_up r 0 v) ad = (FX9 i j r ad).set 0 (vf ad v) := rfl
theorem FX9_s1 {i : Nat → Int32} {j : Nat → Int64} {r : Nat → Option Nat} {ad : Nat → Nat} {v : Option Nat} : FX9 i j (va_up r 1 v) ad = (FX9 i j r ad).set 1 (vf ad v) := rfl
theorem FX9_s2 {i : Nat → Int32} {j : Nat → Int64} {r : Nat → Option Nat} {ad : Nat → Nat} {v : Option Nat} : FX9 i j (va_up r 2 v) ad = (FX9 i j r ad).set 2 (vf ad v) := rfl
theorem FX9_s3 {i : Nat → Int32} {j : Nat → Int64} {r : Nat → Option Nat} {ad : Nat → Nat} {v : Option Nat} : FX9 i j (va_up r 3 v) ad = (FX9 i j r ad).set 3 (vf ad v) := rfl
theorem FX9_s4 {i : Nat → Int32} {j : Nat → Int64} {r : Nat → Option Nat} {ad : Nat → Nat} {v : Option Nat} : FX9 i j (va_up r 4 v) ad = (FX9 i j r ad).set 4 (vf ad v) := rfl
theorem FX9_s5 {i : Nat → Int32} {j : Nat → Int64} {r : Nat → Option Nat} {ad : Nat → Nat} {v : Option Nat} : FX9 i j (va_up r 5 v) ad = (FX9 i j r ad).set 5 (vf ad v) := rfl
def FX10 (i : Nat → Int32) (j : Nat → Int64) (r : Nat → Option Nat) (ad : Nat → Nat) : List Value := [vf ad (r 0), .int (i 1), .int (i 2), .int (i 3), .int (i 4), vf ad (r 5), vf ad (r 6), vf ad (r 7), .int (i 8), vf ad (r 9), vf ad (r 10), vf ad (r 11), vf ad (r 12), vf ad (r 13), .int (i 14), .int (i 15), .int (i 16), .int (i 17)]
theorem FX10_s0 {i : Nat → Int32} {j : Nat → Int64} {r : Nat → Option Nat} {ad : Nat → Nat} {v : Option Nat} : FX10 i j (va_up r 0 v) ad = (FX10 i j r ad).set 0 (vf ad v) := rfl
theorem FX10_s1 {i : Nat → Int32} {j : Nat → Int64} {r : Nat → Option Nat} {ad : Nat → Nat} {v : Int32} : FX10 (upd i 1 v) j r ad = (FX10 i j r ad).set 1 (.int v) := rfl
theorem FX10_s2 {i : Nat → Int32} {j : Nat → Int64} {r : Nat → Option Nat} {ad : Nat → Nat} {v : Int32} : FX10 (upd i 2 v) j r ad = (FX10 i j r ad).set 2 (.int v) := rfl
theorem FX10_s3 {i : Nat → Int32} {j : Nat → Int64} {r : Nat → Option Nat} {ad : Nat → Nat} {v : Int32} : FX10 (upd i 3 v) j r ad = (FX10 i j r ad).set 3 (.int v) := rfl
theorem FX10_s4 {i : Nat → Int32} {j : Nat → Int64} {r : Nat → Option Nat} {ad : Nat → Nat} {v : Int32} : FX10 (upd i 4 v) j r ad = (FX10 i j r ad).set 4 (.int v) := rfl
theorem FX10_s5 {i : Nat → Int32} {j : Nat → Int64} {r : Nat → Option Nat} {ad : Nat → Nat} {v : Option Nat} : FX10 i j (va_up r 5 v) ad = (FX10 i j r ad).set 5 (vf ad v) := rfl
theorem FX10_s6 {i : Nat → Int32} {j : Nat → Int64} {r : Nat → Option Nat} {ad : Nat → Nat} {v : Option Nat} : FX10 i j (va_up r 6 v) ad = (FX10 i j r ad).set 6 (vf ad v) := rfl
theorem FX10_s7 {i : Nat → Int32} {j : Nat → Int64} {r : Nat → Option Nat} {ad : Nat → Nat} {v : Option Nat} : FX10 i j (va_up r 7 v) ad = (FX10 i j r ad).set 7 (vf ad v) := rfl
theorem FX10_s8 {i : Nat → Int32} {j : Nat → Int64} {r : Nat → Option Nat} {ad : Nat → Nat} {v : Int32} : FX10 (upd i 8 v) j r ad = (FX10 i j r ad).set 8 (.int v) := rfl
theorem FX10_s9 {i : Nat → Int32} {j : Nat → Int64} {r : Nat → Option Nat} {ad : Nat → Nat} {v : Option Nat} : FX10 i j (va_up r 9 v) ad = (FX10 i j r ad).set 9 (vf ad v) := rfl
theorem FX10_s10 {i : Nat → Int32} {j : Nat → Int64} {r : Nat → Option Nat} {ad : Nat → Nat} {v : Option Nat} : FX10 i j (va_up r 10 v) ad = (FX10 i j r ad).set 10 (vf ad v) := rfl
theorem FX10_s11 {i : Nat → Int32} {j : Nat → Int64} {r : Nat → Option Nat} {ad : Nat → Nat} {v : Option Nat} : FX10 i j (va_up r 11 v) ad = (FX10 i j r ad).set 11 (vf ad v) := rfl
theorem FX10_s12 {i : Nat → Int32} {j : Nat → Int64} {r : Nat → Option Nat} {ad : Nat → Nat} {v : Option Nat} : FX10 i j (va_up r 12 v) ad = (FX10 i j r ad).set 12 (vf ad v) := rfl
theorem FX10_s13 {i : Nat → Int32} {j : Nat → Int64} {r : Nat → Option Nat} {ad : Nat → Nat} {v : Option Nat} : FX10 i j (va_up r 13 v) ad = (FX10 i j r ad).set 13 (vf ad v) := rfl
theorem FX10_s14 {i : Nat → Int32} {j : Nat → Int64} {r : Nat → Option Nat} {ad : Nat → Nat} {v : Int32} : FX10 (upd i 14 v) j r ad = (FX10 i j r ad).set 14 (.int v) := rfl
theorem FX10_s15 {i : Nat → Int32} {j : Nat → Int64} {r : Nat → Option Nat} {ad : Nat → Nat} {v : Int32} : FX10 (upd i 15 v) j r ad = (FX10 i j r ad).set 15 (.int v) := rfl
theorem FX10_s16 {i : Nat → Int32} {j : Nat → Int64} {r : Nat → Option Nat} {ad : Nat → Nat} {v : Int32} : FX10 (upd i 16 v) j r ad = (FX10 i j r ad).set 16 (.int v) := rfl
theorem FX10_s17 {i : Nat → Int32} {j : Nat → Int64} {r : Nat → Option Nat} {ad : Nat → Nat} {v : Int32} : FX10 (upd i 17 v) j r ad = (FX10 i j r ad).set 17 (.int v) := rfl
def FX11 (i : Nat → Int32) (j : Nat → Int64) (r : Nat → Option Nat) (ad : Nat → Nat) : List Value := [vf ad (r 0), vf ad (r 1), vf ad (r 2), vf ad (r 3), vf ad (r 4), .int (i 5), .int (i 6), vf ad (r 7), .int (i 8), .int (i 9), vf ad (r 10), vf ad (r 11), vf ad (r 12), vf ad (r 13), vf ad (r 14), vf ad (r 15), vf ad (r 16), vf ad (r 17)]
theorem FX11_s0 {i : Nat → Int32} {j : Nat → Int64} {r : Nat → Option Nat} {ad : Nat → Nat} {v : Option Nat} : FX11 i j (va_up r 0 v) ad = (FX11 i j r ad).set 0 (vf ad v) := rfl
theorem FX11_s1 {i : Nat → Int32} {j : Nat → Int64} {r : Nat → Option Nat} {ad : Nat → Nat} {v : Option Nat} : FX11 i j (va_up r 1 v) ad = (FX11 i j r ad).set 1 (vf ad v) := rfl
theorem FX11_s2 {i : Nat → Int32} {j : Nat → Int64} {r : Nat → Option Nat} {ad : Nat → Nat} {v : Option Nat} : FX11 i j (va_up r 2 v) ad = (FX11 i j r ad).set 2 (vf ad v) := rfl
theorem FX11_s3 {i : Nat → Int32} {j : Nat → Int64} {r : Nat → Option Nat} {ad : Nat → Nat} {v : Option Nat} : FX11 i j (va_up r 3 v) ad = (FX11 i j r ad).set 3 (vf ad v) := rfl
theorem FX11_s4 {i : Nat → Int32} {j : Nat → Int64} {r : Nat → Option Nat} {ad : Nat → Nat} {v : Option Nat} : FX11 i j (va_up r 4 v) ad = (FX11 i j r ad).set 4 (vf ad v) := rfl
theorem FX11_s5 {i : Nat → Int32} {j : Nat → Int64} {r : Nat → Option Nat} {ad : Nat → Nat} {v : Int32} : FX11 (upd i 5 v) j r ad = (FX11 i j r ad).set 5 (.int v) := rfl
theorem FX11_s6 {i : Nat → Int32} {j : Nat → Int64} {r : Nat → Option Nat} {ad : Nat → Nat} {v : Int32} : FX11 (upd i 6 v) j r ad = (FX11 i j r ad).set 6 (.int v) := rfl
theorem FX11_s7 {i : Nat → Int32} {j : Nat → Int64} {r : Nat → Option Nat} {ad : Nat → Nat} {v : Option Nat} : FX11 i j (va_up r 7 v) ad = (FX11 i j r ad).set 7 (vf ad v) := rfl
theorem FX11_s8 {i : Nat → Int32} {j : Nat → Int64} {r : Nat → Option Nat} {ad : Nat → Nat} {v : Int32} : FX11 (upd i 8 v) j r ad = (FX11 i j r ad).set 8 (.int v) := rfl
theorem FX11_s9 {i : Nat → Int32} {j : Nat → Int64} {r : Nat → Option Nat} {ad : Nat → Nat} {v : Int32} : FX11 (upd i 9 v) j r ad = (FX11 i j r ad).set 9 (.int v) := rfl
theorem FX11_s10 {i : Nat → Int32} {j : Nat → Int64} {r : Nat → Option Nat} {ad : Nat → Nat} {v : Option Nat} : FX11 i j (va_up r 10 v) ad = (FX11 i j r ad).set 10 (vf ad v) := rfl
theorem FX11_s11 {i : Nat → Int32} {j : Nat → Int64} {r : Nat → Option Nat} {ad : Nat → Nat} {v : Option Nat} : FX11 i j (va_up r 11 v) ad = (FX11 i j r ad).set 11 (vf ad v) := rfl
theorem FX11_s12 {i : Nat → Int32} {j : Nat → Int64} {r : Nat → Option Nat} {ad : Nat → Nat} {v : Option Nat} : FX11 i j (va_up r 12 v) ad = (FX11 i j r ad).set 12 (vf ad v) := rfl
theorem FX11_s13 {i : Nat → Int32} {j : Nat → Int64} {r : Nat → Option Nat} {ad : Nat → Nat} {v : Option Nat} : FX11 i j (va_up r 13 v) ad = (FX11 i j r ad).set 13 (vf ad v) := rfl
theorem FX11_s14 {i : Nat → Int32} {j : Nat → Int64} {r : Nat → Option Nat} {ad : Nat → Nat} {v : Option Nat} : FX11 i j (va_up r 14 v) ad = (FX11 i j r ad).set 14 (vf ad v) := rfl
theorem FX11_s15 {i : Nat → Int32} {j : Nat → Int64} {r : Nat → Option Nat} {ad : Nat → Nat} {v : Option Nat} : FX11 i j (va_up r 15 v) ad = (FX11 i j r ad).set 15 (vf ad v) := rfl
theorem FX11_s16 {i : Nat → Int32} {j : Nat → Int64} {r : Nat → Option Nat} {ad : Nat → Nat} {v : Option Nat} : FX11 i j (va_up r 16 v) ad = (FX11 i j r ad).set 16 (vf ad v) := rfl
theorem FX11_s17 {i : Nat → Int32} {j : Nat → Int64} {r : Nat → Option Nat} {ad : Nat → Nat} {v : Option Nat} : FX11 i j (va_up r 17 v) ad = (FX11 i j r ad).set 17 (vf ad v) := rfl
def FX12 (i : Nat → Int32) (j : Nat → Int64) (r : Nat → Option Nat) (ad : Nat → Nat) : List Value := [vf ad (r 0), vf ad (r 1), vf ad (r 2), vf ad (r 3), vf ad (r 4), vf ad (r 5), vf ad (r 6), vf ad (r 7), vf ad (r 8), vf ad (r 9), .int (i 10), .int (i 11), .int (i 12), .int (i 13), .int (i 14), .int (i 15), .int (i 16), .int (i 17)]
theorem FX12_s0 {i : Nat → Int32} {j : Nat → Int64} {r : Nat → Option Nat} {ad : Nat → Nat} {v : Option Nat} : FX12 i j (va_up r 0 v) ad = (FX12 i j r ad).set 0 (vf ad v) := rfl
theorem FX12_s1 {i : Nat → Int32} {j : Nat → Int64} {r : Nat → Option Nat} {ad : Nat → Nat} {v : Option Nat} : FX12 i j (va_up r 1 v) ad = (FX12 i j r ad).set 1 (vf ad v) := rfl
theorem FX12_s2 {i : Nat → Int32} {j : Nat → Int64} {r : Nat → Option Nat} {ad : Nat → Nat} {v : Option Nat} : FX12 i j (va_up r 2 v) ad = (FX12 i j r ad).set 2 (vf ad v) := rfl
theorem FX12_s3 {i : Nat → Int32} {j : Nat → Int64} {r : Nat → Option Nat} {ad : Nat → Nat} {v : Option Nat} : FX12 i j (va_up r 3 v) ad = (FX12 i j r ad).set 3 (vf ad v) := rfl
theorem FX12_s4 {i : Nat → Int32} {j : Nat → Int64} {r : Nat → Option Nat} {ad : Nat → Nat} {v : Option Nat} : FX12 i j (va_up r 4 v) ad = (FX12 i j r ad).set 4 (vf ad v) := rfl
theorem FX12_s5 {i : Nat → Int32} {j : Nat → Int64} {r : Nat → Option Nat} {ad : Nat → Nat} {v : Option Nat} : FX12 i j (va_up r 5 v) ad = (FX12 i j r ad).set 5 (vf ad v) := rfl
theorem FX12_s6 {i : Nat → Int32} {j : Nat → Int64} {r : Nat → Option Nat} {ad : Nat → Nat} {v : Option Nat} : FX12 i j (va_up r 6 v) ad = (FX12 i j r ad).set 6 (vf ad v) := rfl
theorem FX12_s7 {i : Nat → Int32} {j : Nat → Int64} {r : Nat → Option Nat} {ad : Nat → Nat} {v : Option Nat} : FX12 i j (va_up r 7 v) ad = (FX12 i j r ad).set 7 (vf ad v) := rfl
theorem FX12_s8 {i : Nat → Int32} {j : Nat → Int64} {r : Nat → Option Nat} {ad : Nat → Nat} {v : Option Nat} : FX12 i j (va_up r 8 v) ad = (FX12 i j r ad).set 8 (vf ad v) := rfl
theorem FX12_s9 {i : Nat → Int32} {j : Nat → Int64} {r : Nat → Option Nat} {ad : Nat → Nat} {v : Option Nat} : FX12 i j (va_up r 9 v) ad = (FX12 i j r ad).set 9 (vf ad v) := rfl
theorem FX12_s10 {i : Nat → Int32} {j : Nat → Int64} {r : Nat → Option Nat} {ad : Nat → Nat} {v : Int32} : FX12 (upd i 10 v) j r ad = (FX12 i j r ad).set 10 (.int v) := rfl
theorem FX12_s11 {i : Nat → Int32} {j : Nat → Int64} {r : Nat → Option Nat} {ad : Nat → Nat} {v : Int32} : FX12 (upd i 11 v) j r ad = (FX12 i j r ad).set 11 (.int v) := rfl
theorem FX12_s12 {i : Nat → Int32} {j : Nat → Int64} {r : Nat → Option Nat} {ad : Nat → Nat} {v : Int32} : FX12 (upd i 12 v) j r ad = (FX12 i j r ad).set 12 (.int v) := rfl
theorem FX12_s13 {i : Nat → Int32} {j : Nat → Int64} {r : Nat → Option Nat} {ad : Nat → Nat} {v : Int32} : FX12 (upd i 13 v) j r ad = (FX12 i j r ad).set 13 (.int v) := rfl
theorem FX12_s14 {i : Nat → Int32} {j : Nat → Int64} {r : Nat → Option Nat} {ad : Nat → Nat} {v : Int32} : FX12 (upd i 14 v) j r ad = (FX12 i j r ad).set 14 (.int v) := rfl
theorem FX12_s15 {i : Nat → Int32} {j : Nat → Int64} {r : Nat → Option Nat} {ad : Nat → Nat} {v : Int32} : FX12 (upd i 15 v) j r ad = (FX12 i j r ad).set 15 (.int v) := rfl
theorem FX12_s16 {i : Nat → Int32} {j : Nat → Int64} {r : Nat → Option Nat} {ad : Nat → Nat} {v : Int32} : FX12 (upd i 16 v) j r ad = (FX12 i j r ad).set 16 (.int v) := rfl
theorem FX12_s17 {i : Nat → Int32} {j : Nat → Int64} {r : Nat → Option Nat} {ad : Nat → Nat} {v : Int32} : FX12 (upd i 17 v) j r ad = (FX12 i j r ad).set 17 (.int v) := rfl
def etX0 : List Nat := [101, 0]
def etX1 : List Nat := [44, 102, 301, 302, 103, 0, 0, 0, 49, 47]
def etX2 : List Nat := [46, 0, 0, 0, 0, 0, 0, 201, 0, 0, 0, 0]
def etX3 : List Nat := [47, 0, 202, 203, 204, 205, 206, 207, 303, 401, 0, 208, 209, 210, 211, 212]
def etX4 : List Nat := [213, 214, 304, 49, 47, 0, 0, 0]
def etX5 : List Nat := [49, 402, 215, 0, 216, 0, 403, 0, 404, 405, 217, 0, 47, 0, 0, 0, 0, 0, 0, 0]
def etX7 : List Nat := [101, 0, 0, 0, 218, 0, 0, 0, 0, 219, 220, 221, 0, 0, 0, 0, 0]
def etX8 : List Nat := [222, 406, 0, 223, 0, 224, 225, 226, 227, 0, 0, 0, 104, 407, 408]
def etX9 : List Nat := [47, 228, 305, 306, 229, 230]
def etX10 : List Nat := [105, 0, 0, 0, 0, 231, 232, 233, 0, 234, 235, 236, 237, 6, 0, 0, 0, 0]
def etX11 : List Nat := [40, 40, 40, 238, 239, 0, 0, 49, 0, 0, 240, 241, 242, 243, 44, 47, 244, 245]
def etX12 : List Nat := [40, 40, 40, 5, 42, 41, 50, 45, 43, 48, 0, 0, 0, 0, 0, 0, 0, 0]
def etgC (t j : Nat) : Nat := if t = 40 then etX0.getD j 0 else if t = 41 then etX1.getD j 0 else if t = 42 then etX2.getD j 0 else if t = 43 then etX3.getD j 0 else if t = 44 then etX4.getD j 0 else if t = 45 then etX5.getD j 0 else if t = 46 then etX7.getD j 0 else if t = 47 then etX8.getD j 0 else if t = 48 then etX9.getD j 0 else if t = 49 then etX10.getD j 0 else if t = 50 then etX11.getD j 0 else if t = 51 then etX12.getD j 0 else if t = 5 then 49 else if t = 6 then 47 else 0
def otX8 : List Nat := [1, 2, 0, 3, 0, 4, 5, 6, 7, 0, 0, 0, 0, 0, 0]
def otX10 : List Nat := [1, 0, 0, 0, 0, 2, 3, 4, 0, 5, 6, 7, 8, 9, 0, 0, 0, 0]
def otgC (t j : Nat) : Nat := if t = 47 then otX8.getD j 0 else if t = 49 then otX10.getD j 0 else 0
def ztgC (t j : Nat) : Bool := (Nat.blt 300 t && Nat.blt t 400) || (t == 41 && j == 6) || (t == 41 && j == 7) || (t == 44 && j == 6) || (t == 49 && j == 15) || (t == 50 && j == 6)
def finC : List (Nat × Nat × Nat × Nat × Nat) := [(16, 0, 17, 44, 0), (16, 4, 24, 103, 48), (8, 0, 9, 46, 0), (8, 7, 15, 201, 1201), (44, 1, 45, 402, 24), (44, 6, 48, 403, 8), (44, 10, 51, 217, 180), (9, 4, 11, 218, 500), (9, 9, 12, 219, 48), (9, 10, 13, 220, 24), (9, 11, 14, 221, 24), (66, 1, 75, 228, 12), (25, 0, 26, 40, 0), (25, 1, 28, 40, 0), (25, 2, 30, 40, 0), (25, 3, 32, 238, 500), (25, 4, 33, 239, 500), (25, 10, 34, 240, 24), (25, 11, 35, 241, 24), (25, 12, 36, 242, 24), (25, 13, 37, 243, 24), (25, 14, 38, 44, 0), (0, 0, 1, 40, 0), (0, 1, 3, 40, 0), (0, 2, 5, 40, 0), (0, 3, 7, 5, 12), (0, 4, 8, 42, 0), (0, 5, 16, 41, 0), (0, 6, 25, 50, 0), (0, 7, 44, 45, 0), (0, 8, 52, 43, 0), (0, 9, 66, 48, 0)]
theorem finC_0 : (16, 0, 17, 44, 0) ∈ finC := List.mem_of_getElem? (i := 0) rfl
theorem finC_1 : (16, 4, 24, 103, 48) ∈ finC := List.mem_of_getElem? (i := 1) rfl
theorem finC_2 : (8, 0, 9, 46, 0) ∈ finC := List.mem_of_getElem? (i := 2) rfl
theorem finC_3 : (8, 7, 15, 201, 1201) ∈ finC := List.mem_of_getElem? (i := 3) rfl
theorem finC_4 : (44, 1, 45, 402, 24) ∈ finC := List.mem_of_getElem? (i := 4) rfl
theorem finC_5 : (44, 6, 48, 403, 8) ∈ finC := List.mem_of_getElem? (i := 5) rfl
theorem finC_6 : (44, 10, 51, 217, 180) ∈ finC := List.mem_of_getElem? (i := 6) rfl
theorem finC_7 : (9, 4, 11, 218, 500) ∈ finC := List.mem_of_getElem? (i := 7) rfl
theorem finC_8 : (9, 9, 12, 219, 48) ∈ finC := List.mem_of_getElem? (i := 8) rfl
theorem finC_9 : (9, 10, 13, 220, 24) ∈ finC := List.mem_of_getElem? (i := 9) rfl
theorem finC_10 : (9, 11, 14, 221, 24) ∈ finC := List.mem_of_getElem? (i := 10) rfl
theorem finC_11 : (66, 1, 75, 228, 12) ∈ finC := List.mem_of_getElem? (i := 11) rfl
theorem finC_12 : (25, 0, 26, 40, 0) ∈ finC := List.mem_of_getElem? (i := 12) rfl
theorem finC_13 : (25, 1, 28, 40, 0) ∈ finC := List.mem_of_getElem? (i := 13) rfl
theorem finC_14 : (25, 2, 30, 40, 0) ∈ finC := List.mem_of_getElem? (i := 14) rfl
theorem finC_15 : (25, 3, 32, 238, 500) ∈ finC := List.mem_of_getElem? (i := 15) rfl
theorem finC_16 : (25, 4, 33, 239, 500) ∈ finC := List.mem_of_getElem? (i := 16) rfl
theorem finC_17 : (25, 10, 34, 240, 24) ∈ finC := List.mem_of_getElem? (i := 17) rfl
theorem finC_18 : (25, 11, 35, 241, 24) ∈ finC := List.mem_of_getElem? (i := 18) rfl
theorem finC_19 : (25, 12, 36, 242, 24) ∈ finC := List.mem_of_getElem? (i := 19) rfl
theorem finC_20 : (25, 13, 37, 243, 24) ∈ finC := List.mem_of_getElem? (i := 20) rfl
theorem finC_21 : (25, 14, 38, 44, 0) ∈ finC := List.mem_of_getElem? (i := 21) rfl
theorem finC_22 : (0, 0, 1, 40, 0) ∈ finC := List.mem_of_getElem? (i := 22) rfl
theorem finC_23 : (0, 1, 3, 40, 0) ∈ finC := List.mem_of_getElem? (i := 23) rfl
theorem finC_24 : (0, 2, 5, 40, 0) ∈ finC := List.mem_of_getElem? (i := 24) rfl
theorem finC_25 : (0, 3, 7, 5, 12) ∈ finC := List.mem_of_getElem? (i := 25) rfl
theorem finC_26 : (0, 4, 8, 42, 0) ∈ finC := List.mem_of_getElem? (i := 26) rfl
theorem finC_27 : (0, 5, 16, 41, 0) ∈ finC := List.mem_of_getElem? (i := 27) rfl
theorem finC_28 : (0, 6, 25, 50, 0) ∈ finC := List.mem_of_getElem? (i := 28) rfl
theorem finC_29 : (0, 7, 44, 45, 0) ∈ finC := List.mem_of_getElem? (i := 29) rfl
theorem finC_30 : (0, 8, 52, 43, 0) ∈ finC := List.mem_of_getElem? (i := 30) rfl
theorem finC_31 : (0, 9, 66, 48, 0) ∈ finC := List.mem_of_getElem? (i := 31) rfl
theorem finC_ok : ∀ q ∈ finC, q.2.2.2.1 ≠ 0 ∧ q.2.2.2.1 ≠ 12 ∧ q.2.2.2.1 ≠ 22 := by decide
def ownC : List Nat := [41, 42, 45, 46, 48, 50, 51]
theorem finC_own : ∀ q ∈ finC, q.1 = 0 ∨ ∃ p ∈ finC, p.2.2.1 = q.1 ∧ p.2.2.2.1 ∈ ownC := by decide
def ptrC : List (Nat × Nat) := [(1, 0), (3, 0), (5, 0), (9, 0), (16, 1), (16, 2), (16, 3), (17, 0), (17, 1), (17, 2), (25, 16), (25, 17), (26, 0), (28, 0), (30, 0), (38, 0), (38, 1), (38, 2), (44, 2), (44, 4), (44, 8), (44, 9), (52, 2), (52, 3), (52, 4), (52, 5), (52, 6), (52, 7), (52, 8), (52, 9), (52, 11), (52, 12), (52, 13), (52, 14), (52, 15), (66, 2), (66, 3), (66, 4), (66, 5), (66, 0)]
theorem ptrC_3 : (9, 0) ∈ ptrC := List.mem_of_getElem? (i := 3) rfl
theorem ptrC_4 : (16, 1) ∈ ptrC := List.mem_of_getElem? (i := 4) rfl
theorem ptrC_5 : (16, 2) ∈ ptrC := List.mem_of_getElem? (i := 5) rfl
theorem ptrC_6 : (16, 3) ∈ ptrC := List.mem_of_getElem? (i := 6) rfl
theorem ptrC_10 : (25, 16) ∈ ptrC := List.mem_of_getElem? (i := 10) rfl
theorem ptrC_11 : (25, 17) ∈ ptrC := List.mem_of_getElem? (i := 11) rfl
theorem ptrC_12 : (26, 0) ∈ ptrC := List.mem_of_getElem? (i := 12) rfl
theorem ptrC_14 : (30, 0) ∈ ptrC := List.mem_of_getElem? (i := 14) rfl
theorem ptrC_18 : (44, 2) ∈ ptrC := List.mem_of_getElem? (i := 18) rfl
theorem ptrC_19 : (44, 4) ∈ ptrC := List.mem_of_getElem? (i := 19) rfl
theorem ptrC_20 : (44, 8) ∈ ptrC := List.mem_of_getElem? (i := 20) rfl
theorem ptrC_21 : (44, 9) ∈ ptrC := List.mem_of_getElem? (i := 21) rfl
theorem ptrC_22 : (52, 2) ∈ ptrC := List.mem_of_getElem? (i := 22) rfl
theorem ptrC_23 : (52, 3) ∈ ptrC := List.mem_of_getElem? (i := 23) rfl
theorem ptrC_24 : (52, 4) ∈ ptrC := List.mem_of_getElem? (i := 24) rfl
theorem ptrC_25 : (52, 5) ∈ ptrC := List.mem_of_getElem? (i := 25) rfl
theorem ptrC_26 : (52, 6) ∈ ptrC := List.mem_of_getElem? (i := 26) rfl
theorem ptrC_27 : (52, 7) ∈ ptrC := List.mem_of_getElem? (i := 27) rfl
theorem ptrC_28 : (52, 8) ∈ ptrC := List.mem_of_getElem? (i := 28) rfl
theorem ptrC_29 : (52, 9) ∈ ptrC := List.mem_of_getElem? (i := 29) rfl
theorem ptrC_30 : (52, 11) ∈ ptrC := List.mem_of_getElem? (i := 30) rfl
theorem ptrC_31 : (52, 12) ∈ ptrC := List.mem_of_getElem? (i := 31) rfl
theorem ptrC_32 : (52, 13) ∈ ptrC := List.mem_of_getElem? (i := 32) rfl
theorem ptrC_33 : (52, 14) ∈ ptrC := List.mem_of_getElem? (i := 33) rfl
theorem ptrC_34 : (52, 15) ∈ ptrC := List.mem_of_getElem? (i := 34) rfl
theorem ptrC_35 : (66, 2) ∈ ptrC := List.mem_of_getElem? (i := 35) rfl
theorem ptrC_36 : (66, 3) ∈ ptrC := List.mem_of_getElem? (i := 36) rfl
theorem ptrC_37 : (66, 4) ∈ ptrC := List.mem_of_getElem? (i := 37) rfl
theorem ptrC_38 : (66, 5) ∈ ptrC := List.mem_of_getElem? (i := 38) rfl
theorem ptrC_39 : (66, 0) ∈ ptrC := List.mem_of_getElem? (i := 39) rfl
def tyC (g : Gr) : List (ClassId × FieldType) := [(g.cB, .byte), (g.cI, .int), (g.cZ, .boolean), (g.cL, .long), (g.cS, .object RX10), (g.cF, .object RX8)]
def celC (g : Gr) (ad : Nat → Nat) (S : MS) (h : Nat) : va_E :=
  if 100 < qT S h ∧ qT S h < 200 then .inl (g.cB, qN S h, .inl (qI S h)) else
  if 200 < qT S h ∧ qT S h < 300 then .inl (g.cI, qN S h, .inl (qI S h)) else
  if 300 < qT S h ∧ qT S h < 400 then .inl (g.cZ, qN S h, .inl (qI S h)) else
  if 400 < qT S h ∧ qT S h < 500 then .inl (g.cL, qN S h, .inr (.inl (qJ S h))) else
  if qT S h = 5 then .inl (g.cS, qN S h, .inr (.inr (.inr (.inr (fun i => (qR S h i).map ad))))) else
  if qT S h = 6 then .inl (g.cF, qN S h, .inr (.inr (.inr (.inr (fun i => (qR S h i).map ad))))) else
  if qT S h = 40 then .inr (0, FX0 (qI S h) (qJ S h) (qR S h) ad) else
  if qT S h = 41 then .inr (1, FX1 (qI S h) (qJ S h) (qR S h) ad) else
  if qT S h = 42 then .inr (2, FX2 (qI S h) (qJ S h) (qR S h) ad) else
  if qT S h = 43 then .inr (3, FX3 (qI S h) (qJ S h) (qR S h) ad) else
  if qT S h = 44 then .inr (4, FX4 (qI S h) (qJ S h) (qR S h) ad) else
  if qT S h = 45 then .inr (5, FX5 (qI S h) (qJ S h) (qR S h) ad) else
  if qT S h = 46 then .inr (6, FX7 (qI S h) (qJ S h) (qR S h) ad) else
  if qT S h = 47 then .inr (7, FX8 (qI S h) (qJ S h) (qR S h) ad) else
  if qT S h = 48 then .inr (8, FX9 (qI S h) (qJ S h) (qR S h) ad) else
  if qT S h = 49 then .inr (9, FX10 (qI S h) (qJ S h) (qR S h) ad) else
  if qT S h = 50 then .inr (10, FX11 (qI S h) (qJ S h) (qR S h) ad) else
  if qT S h = 51 then .inr (11, FX12 (qI S h) (qJ S h) (qR S h) ad) else .inr (14, [])
def WdC (g : Gr) (ad : Nat → Nat) (S : MS) : va_W := (List.range (qn S)).map (fun h => (ad h, celC g ad S h))
section CELC
variable {g : Gr} {ad : Nat → Nat} {S S' : MS} {h a i : Nat}
theorem celCB {t : Nat} (e : qT S h = t) (ht : 100 < t ∧ t < 200) : celC g ad S h = .inl (g.cB, qN S h, .inl (qI S h)) := by unfold celC; rw [if_pos (by omega)]
theorem celCI {t : Nat} (e : qT S h = t) (ht : 200 < t ∧ t < 300) : celC g ad S h = .inl (g.cI, qN S h, .inl (qI S h)) := by unfold celC; rw [if_neg (by omega), if_pos (by omega)]
theorem celCZ {t : Nat} (e : qT S h = t) (ht : 300 < t ∧ t < 400) : celC g ad S h = .inl (g.cZ, qN S h, .inl (qI S h)) := by unfold celC; rw [if_neg (by omega), if_neg (by omega), if_pos (by omega)]
theorem celCL {t : Nat} (e : qT S h = t) (ht : 400 < t ∧ t < 500) : celC g ad S h = .inl (g.cL, qN S h, .inr (.inl (qJ S h))) := by unfold celC; rw [if_neg (by omega), if_neg (by omega), if_neg (by omega), if_pos (by omega)]
theorem celC5 (e : qT S h = 5) : celC g ad S h = .inl (g.cS, qN S h, .inr (.inr (.inr (.inr (fun i => (qR S h i).map ad))))) := by unfold celC; rw [if_neg (by omega), if_neg (by omega), if_neg (by omega), if_neg (by omega), if_pos e]
theorem celC6 (e : qT S h = 6) : celC g ad S h = .inl (g.cF, qN S h, .inr (.inr (.inr (.inr (fun i => (qR S h i).map ad))))) := by unfold celC; rw [if_neg (by omega), if_neg (by omega), if_neg (by omega), if_neg (by omega), if_neg (by omega), if_pos e]
theorem celC40 (e : qT S h = 40) : celC g ad S h = .inr (0, FX0 (qI S h) (qJ S h) (qR S h) ad) := by unfold celC; rw [if_neg (by omega), if_neg (by omega), if_neg (by omega), if_neg (by omega), if_neg (by omega), if_neg (by omega), if_pos e]
theorem celC41 (e : qT S h = 41) : celC g ad S h = .inr (1, FX1 (qI S h) (qJ S h) (qR S h) ad) := by unfold celC; rw [if_neg (by omega), if_neg (by omega), if_neg (by omega), if_neg (by omega), if_neg (by omega), if_neg (by omega), if_neg (by omega), if_pos e]
theorem celC42 (e : qT S h = 42) : celC g ad S h = .inr (2, FX2 (qI S h) (qJ S h) (qR S h) ad) := by unfold celC; rw [if_neg (by omega), if_neg (by omega), if_neg (by omega), if_neg (by omega), if_neg (by omega), if_neg (by omega), if_neg (by omega), if_neg (by omega), if_pos e]
theorem celC43 (e : qT S h = 43) : celC g ad S h = .inr (3, FX3 (qI S h) (qJ S h) (qR S h) ad) := by unfold celC; rw [if_neg (by omega), if_neg (by omega), if_neg (by omega), if_neg (by omega), if_neg (by omega), if_neg (by omega), if_neg (by omega), if_neg (by omega), if_neg (by omega), if_pos e]
theorem celC44 (e : qT S h = 44) : celC g ad S h = .inr (4, FX4 (qI S h) (qJ S h) (qR S h) ad) := by unfold celC; rw [if_neg (by omega), if_neg (by omega), if_neg (by omega), if_neg (by omega), if_neg (by omega), if_neg (by omega), if_neg (by omega), if_neg (by omega), if_neg (by omega), if_neg (by omega), if_pos e]
theorem celC45 (e : qT S h = 45) : celC g ad S h = .inr (5, FX5 (qI S h) (qJ S h) (qR S h) ad) := by unfold celC; rw [if_neg (by omega), if_neg (by omega), if_neg (by omega), if_neg (by omega), if_neg (by omega), if_neg (by omega), if_neg (by omega), if_neg (by omega), if_neg (by omega), if_neg (by omega), if_neg (by omega), if_pos e]
theorem celC46 (e : qT S h = 46) : celC g ad S h = .inr (6, FX7 (qI S h) (qJ S h) (qR S h) ad) := by unfold celC; rw [if_neg (by omega), if_neg (by omega), if_neg (by omega), if_neg (by omega), if_neg (by omega), if_neg (by omega), if_neg (by omega), if_neg (by omega), if_neg (by omega), if_neg (by omega), if_neg (by omega), if_neg (by omega), if_pos e]
theorem celC47 (e : qT S h = 47) : celC g ad S h = .inr (7, FX8 (qI S h) (qJ S h) (qR S h) ad) := by unfold celC; rw [if_neg (by omega), if_neg (by omega), if_neg (by omega), if_neg (by omega), if_neg (by omega), if_neg (by omega), if_neg (by omega), if_neg (by omega), if_neg (by omega), if_neg (by omega), if_neg (by omega), if_neg (by omega), if_neg (by omega), if_pos e]
theorem celC48 (e : qT S h = 48) : celC g ad S h = .inr (8, FX9 (qI S h) (qJ S h) (qR S h) ad) := by unfold celC; rw [if_neg (by omega), if_neg (by omega), if_neg (by omega), if_neg (by omega), if_neg (by omega), if_neg (by omega), if_neg (by omega), if_neg (by omega), if_neg (by omega), if_neg (by omega), if_neg (by omega), if_neg (by omega), if_neg (by omega), if_neg (by omega), if_pos e]
theorem celC49 (e : qT S h = 49) : celC g ad S h = .inr (9, FX10 (qI S h) (qJ S h) (qR S h) ad) := by unfold celC; rw [if_neg (by omega), if_neg (by omega), if_neg (by omega), if_neg (by omega), if_neg (by omega), if_neg (by omega), if_neg (by omega), if_neg (by omega), if_neg (by omega), if_neg (by omega), if_neg (by omega), if_neg (by omega), if_neg (by omega), if_neg (by omega), if_neg (by omega), if_pos e]
theorem celC50 (e : qT S h = 50) : celC g ad S h = .inr (10, FX11 (qI S h) (qJ S h) (qR S h) ad) := by unfold celC; rw [if_neg (by omega), if_neg (by omega), if_neg (by omega), if_neg (by omega), if_neg (by omega), if_neg (by omega), if_neg (by omega), if_neg (by omega), if_neg (by omega), if_neg (by omega), if_neg (by omega), if_neg (by omega), if_neg (by omega), if_neg (by omega), if_neg (by omega), if_neg (by omega), if_pos e]
theorem celC51 (e : qT S h = 51) : celC g ad S h = .inr (11, FX12 (qI S h) (qJ S h) (qR S h) ad) := by unfold celC; rw [if_neg (by omega), if_neg (by omega), if_neg (by omega), if_neg (by omega), if_neg (by omega), if_neg (by omega), if_neg (by omega), if_neg (by omega), if_neg (by omega), if_neg (by omega), if_neg (by omega), if_neg (by omega), if_neg (by omega), if_neg (by omega), if_neg (by omega), if_neg (by omega), if_neg (by omega), if_pos e]
theorem celC_eq (e1 : qI S' a = qI S a) (e2 : qJ S' a = qJ S a) (e3 : qR S' a = qR S a) (e4 : qT S' a = qT S a) (e5 : qN S' a = qN S a) : celC g ad S' a = celC g ad S a := by unfold celC; rw [e1, e2, e3, e4, e5]
theorem WdC_at (hl : h < qn S) {c : va_E} (hc : celC g ad S h = c) : (WdC g ad S)[h]? = some (ad h, c) := by
  unfold WdC
  rw [List.getElem?_map, List.getElem?_range hl, ← hc]
  rfl
theorem WdC_set (hl : h < qn S) (hn : qn S' = qn S) (hne : ∀ a, a ≠ h → celC g ad S' a = celC g ad S a) {c : va_E} (hc : celC g ad S' h = c) : WdC g ad S' = (WdC g ad S).set h (ad h, c) := by
  apply List.ext_getElem?
  intro k
  by_cases hk : k = h
  · subst hk
    rw [List.getElem?_set_self (by unfold WdC; rw [List.length_map, List.length_range]; exact hl), WdC_at (by omega) hc]
  · rw [List.getElem?_set_ne (Ne.symm hk)]
    unfold WdC
    rw [List.getElem?_map, List.getElem?_map, hn]
    cases hq : (List.range (qn S))[k]? with
    | none => rfl
    | some z =>
      have hz : z = k := by
        have := List.getElem?_eq_some_iff.mp hq
        obtain ⟨h1, h2⟩ := this
        rw [List.getElem_range] at h2
        exact h2.symm
      subst hz
      simp only [Option.map_some, hne _ hk]
theorem celC_wI {v : Int32} (hne : a ≠ h) : celC g ad (wI S h i v) a = celC g ad S a := celC_eq (if_neg hne) rfl rfl rfl rfl
theorem celC_wJ {v : Int64} (hne : a ≠ h) : celC g ad (wJ S h i v) a = celC g ad S a := celC_eq rfl (if_neg hne) rfl rfl rfl
theorem celC_wR {v : Option Nat} (hne : a ≠ h) : celC g ad (wR S h i v) a = celC g ad S a := celC_eq rfl rfl (if_neg hne) rfl rfl
end CELC
/-- what holds of the kinds: the fixed rows; where references lead; bytes are bytes, truth values are such -/
def wfC (S : MS) : Prop := qT S 0 = 51 ∧ (∀ q ∈ finC, qR S q.1 q.2.1 = some q.2.2.1 ∧ qT S q.2.2.1 = q.2.2.2.1 ∧ qN S q.2.2.1 = q.2.2.2.2) ∧ (∀ a j b : Nat, qR S a j = some b → qT S b = etgC (qT S a) j ∧ etgC (qT S a) j ≠ 0 ∧ (otgC (qT S a) j ≠ 0 → b = a + otgC (qT S a) j)) ∧ (∀ b : Nat, qT S b ≠ 0 → qT S b ≠ 12 → qT S b ≠ 22 → b < qn S) ∧ (∀ b : Nat, qT S b = 12 → ∃ i : Nat, i < NTC ∧ b = TXB + 2 * i) ∧ (∀ i : Nat, i < NTC → qT S (TXB + 2 * i) = 12 ∧ qT S (TXB + 2 * i + 1) = 22 ∧ qN S (TXB + 2 * i + 1) = sLc.getD i 0 ∧ ∀ k : Nat, qI S (TXB + 2 * i + 1) k = (sBc.getD i []).getD k 0) ∧ qn S ≤ TXB ∧ (∀ b : Nat, qT S b = 22 → TXB ≤ b) ∧ (∀ b i : Nat, 100 < qT S b ∧ qT S b < 200 → fits .byte (.int (qI S b i)) = true) ∧ (∀ b j : Nat, ztgC (qT S b) j = true → qI S b j = 0 ∨ qI S b j = 1) ∧ (∀ b : Nat, qT S b ≠ 0 → qN S b ≤ 8388608) ∧ ∀ p ∈ ptrC, qR S p.1 p.2 ≠ none
theorem wfC.rf3 {S : MS} (h : wfC S) : ∀ a j b : Nat, qR S a j = some b → qT S b = etgC (qT S a) j ∧ etgC (qT S a) j ≠ 0 ∧ (otgC (qT S a) j ≠ 0 → b = a + otgC (qT S a) j) := h.2.2.1
/-- a Row's rows, a Unit's rows lie behind it -/
theorem wfC.off {S : MS} {a j b t o : Nat} (h : wfC S) (e : qR S a j = some b) (ea : qT S a = t) (eo : otgC t j = o) (h0 : o ≠ 0) : b = a + o := by
  have := (h.rf3 a j b e).2.2
  rw [ea, eo] at this
  exact this h0
theorem wfC.lt4 {S : MS} (h : wfC S) : ∀ b : Nat, qT S b ≠ 0 → qT S b ≠ 12 → qT S b ≠ 22 → b < qn S := h.2.2.2.1
theorem wfC.t12 {S : MS} (h : wfC S) : ∀ b : Nat, qT S b = 12 → ∃ i : Nat, i < NTC ∧ b = TXB + 2 * i := h.2.2.2.2.1
theorem wfC.tx6 {S : MS} (h : wfC S) : ∀ i : Nat, i < NTC → qT S (TXB + 2 * i) = 12 ∧ qT S (TXB + 2 * i + 1) = 22 ∧ qN S (TXB + 2 * i + 1) = sLc.getD i 0 ∧ ∀ k : Nat, qI S (TXB + 2 * i + 1) k = (sBc.getD i []).getD k 0 := h.2.2.2.2.2.1
theorem wfC.t22 {S : MS} (h : wfC S) : ∀ b : Nat, qT S b = 22 → TXB ≤ b := h.2.2.2.2.2.2.2.1
theorem wfC.by9 {S : MS} (h : wfC S) : ∀ b i : Nat, 100 < qT S b ∧ qT S b < 200 → fits .byte (.int (qI S b i)) = true := h.2.2.2.2.2.2.2.2.1
theorem wfC.bz {S : MS} (h : wfC S) : ∀ b j : Nat, ztgC (qT S b) j = true → qI S b j = 0 ∨ qI S b j = 1 := h.2.2.2.2.2.2.2.2.2.1
theorem wfC.ln {S : MS} (h : wfC S) : ∀ b : Nat, qT S b ≠ 0 → qN S b ≤ 8388608 := h.2.2.2.2.2.2.2.2.2.2.1
theorem wfC.pt {S : MS} (h : wfC S) : ∀ p ∈ ptrC, qR S p.1 p.2 ≠ none := h.2.2.2.2.2.2.2.2.2.2.2
theorem wfC.ptr {S : MS} {o j : Nat} (h : wfC S) (hm : (o, j) ∈ ptrC) : qR S o j = some (qO S o j) := by
  have := h.pt _ hm
  unfold qO
  cases e : qR S o j with
  | none => exact absurd e this
  | some b => rfl
theorem wfC.len9 {S : MS} {b t : Nat} (h : wfC S) (e : qT S b = t) (h0 : t ≠ 0) : qN S b ≤ 8388608 := h.ln b (by rw [e]; exact h0)
theorem wfC.bit {S : MS} {b j t : Nat} (h : wfC S) (e : qT S b = t) (z : ztgC t j = true) : qI S b j = 0 ∨ qI S b j = 1 := h.bz b j (by rw [e]; exact z)
theorem zB {t j : Nat} (h : 100 < t ∧ t < 200) : ¬ ztgC t j = true := by
  have h1 : Nat.blt 300 t = false := by
    cases e : Nat.blt 300 t with
    | false => rfl
    | true => exact absurd (Nat.le_of_ble_eq_true e) (by omega)
  unfold ztgC; rw [h1]; simp; omega
theorem zI {t j : Nat} (h : 200 < t ∧ t < 300) : ¬ ztgC t j = true := by
  have h1 : Nat.blt 300 t = false := by
    cases e : Nat.blt 300 t with
    | false => rfl
    | true => exact absurd (Nat.le_of_ble_eq_true e) (by omega)
  unfold ztgC; rw [h1]; simp; omega
theorem wfC.by {S : MS} {b t i : Nat} (h : wfC S) (e : qT S b = t) (ht : 100 < t ∧ t < 200) : fits .byte (.int (qI S b i)) = true := h.by9 b i (by rw [e]; exact ht)
theorem wfC.bit3 {S : MS} {b j t : Nat} (h : wfC S) (e : qT S b = t) (ht : 300 < t ∧ t < 400) : qI S b j = 0 ∨ qI S b j = 1 := h.bz b j (by
  have h1 : Nat.blt 300 t = true := Nat.ble_eq_true_of_le ht.1
  have h2 : Nat.blt t 400 = true := Nat.ble_eq_true_of_le ht.2
  rw [e]; unfold ztgC; rw [h1, h2]; rfl)
theorem wfC.lt {S : MS} {b t : Nat} (h : wfC S) (e : qT S b = t) (h0 : t ≠ 0) (h12 : t ≠ 12) (h22 : t ≠ 22) : b < qn S := h.lt4 b (by omega) (by omega) (by omega)
theorem wfC.ref {S : MS} {a j b t : Nat} (h : wfC S) (e : qR S a j = some b) (ea : qT S a = t) : qT S b = etgC t j := by rw [(h.rf3 a j b e).1, ea]
theorem wfC.putI {S : MS} {a j t : Nat} {v : Int32} (h : wfC S) (e : qT S a = t) (h22 : t ≠ 22) (h1 : 100 < t ∧ t < 200 → fits .byte (.int v) = true) (hz : ztgC t j = true → v = 0 ∨ v = 1) : wfC (wI S a j v) := by
  refine ⟨h.1, h.2.1, h.2.2.1, h.2.2.2.1, h.2.2.2.2.1, fun i hi => ?_, h.2.2.2.2.2.2.1, h.t22, fun b i eb => ?_, fun b i zb => ?_, h.ln, h.pt⟩
  · obtain ⟨q1, q2, q3, q4⟩ := h.tx6 i hi
    refine ⟨q1, q2, q3, fun k => ?_⟩
    rw [qI_wI, if_neg (fun q => h22 (by rw [← e, ← q.1, q2]))]
    exact q4 k
  · rw [qI_wI]
    by_cases c : b = a ∧ i = j
    · rw [if_pos c]
      exact h1 (by rw [← e, ← c.1]; exact eb)
    · rw [if_neg c]
      exact h.by9 b i eb
  · rw [qI_wI]
    by_cases c : b = a ∧ i = j
    · rw [if_pos c]
      refine hz ?_
      rw [← e, ← c.1, ← c.2]
      exact zb
    · rw [if_neg c]
      exact h.bz b i zb
theorem wfC.putC {S : MS} {a t : Nat} {f : Nat → Int32} (h : wfC S) (e : qT S a = t) (h22 : t ≠ 22) (h1 : 100 < t ∧ t < 200 → ∀ i, fits .byte (.int (f i)) = true) (hz : ∀ j, ztgC t j = true → f j = 0 ∨ f j = 1) : wfC (wC S a f) := by
  have es : qI (wC S a f) a = f := if_pos rfl
  have en : ∀ b, b ≠ a → qI (wC S a f) b = qI S b := fun b hb => if_neg hb
  refine ⟨h.1, h.2.1, h.2.2.1, h.2.2.2.1, h.2.2.2.2.1, fun i hi => ?_, h.2.2.2.2.2.2.1, h.t22, fun b i eb => ?_, fun b i zb => ?_, h.ln, h.pt⟩
  · obtain ⟨q1, q2, q3, q4⟩ := h.tx6 i hi
    refine ⟨q1, q2, q3, fun k => ?_⟩
    rw [en _ (fun q => h22 (by rw [← e, ← q, q2]))]
    exact q4 k
  · by_cases c : b = a
    · rw [c, es]
      exact h1 (by rw [← e, ← c]; exact eb) i
    · rw [en b c]
      exact h.by9 b i eb
  · by_cases c : b = a
    · rw [c, es]
      refine hz i ?_
      rw [← e, ← c]
      exact zb
    · rw [en b c]
      exact h.bz b i zb
theorem wfC.put {S : MS} {a j : Nat} {r : Option Nat} (h : wfC S) (hb : ∀ b, r = some b → qT S b = etgC (qT S a) j) (hn : ∀ q ∈ finC, ¬ (q.1 = a ∧ q.2.1 = j)) (hz : etgC (qT S a) j ≠ 0) (ho : ∀ b, r = some b → otgC (qT S a) j ≠ 0 → b = a + otgC (qT S a) j) (hp : (∃ p ∈ ptrC, p.1 = a ∧ p.2 = j) → r ≠ none) : wfC (wR S a j r) := by
  refine ⟨h.1, fun q hq => ⟨?_, (h.2.1 q hq).2⟩, fun a' j' b e => ?_, h.2.2.2.1, h.t12, h.tx6, h.2.2.2.2.2.2.1, h.t22, h.by9, h.bz, h.ln, fun p hpp => ?_⟩
  · rw [qR_wR, if_neg (fun z => hn q hq ⟨z.1, z.2⟩)]
    exact (h.2.1 q hq).1
  · rw [qR_wR] at e
    by_cases z : a' = a ∧ j' = j
    · rw [if_pos z] at e
      rw [z.1, z.2]
      exact ⟨hb b e, hz, ho b e⟩
    · rw [if_neg z] at e
      exact h.rf3 a' j' b e
  · rw [qR_wR]
    by_cases z : p.1 = a ∧ p.2 = j
    · rw [if_pos z]
      exact hp ⟨p, hpp, z.1, z.2⟩
    · rw [if_neg z]
      exact h.pt p hpp
theorem etg0 (j : Nat) : etgC 0 j = 0 := rfl
theorem wfC.pto {S : MS} (h : wfC S) : ∀ p ∈ ptrC, qT S p.1 ≠ 0 := by
  intro p hp e
  cases e2 : qR S p.1 p.2 with
  | none => exact h.pt p hp e2
  | some b => exact (h.rf3 _ _ _ e2).2.1 (by rw [e]; exact etg0 _)
/-- an object of a kind that owns no fixed row -/
theorem wfC.noown {S : MS} {a j t : Nat} (h : wfC S) (e : qT S a = t) (ht : t ∉ ownC) (h51 : t ≠ 51) : ∀ q ∈ finC, ¬ (q.1 = a ∧ q.2.1 = j) := by
  intro q hq z
  rcases finC_own q hq with h0 | ⟨p, hp, h1, h2⟩
  · refine h51 ?_
    rw [← e, ← z.1, h0]
    exact h.1
  · refine ht ?_
    rw [← e, ← z.1, ← h1, (h.2.1 p hp).2.1]
    exact h2
/-- a whole row of longs is new -/
def wL (S : MS) (h : Nat) (f : Nat → Int64) : MS := (S.1, fun a => if a = h then f else qJ S a, S.2.2)
/-- the state is held by the heap -/
def RepC (g : Gr) (ad : Nat → Nat) (A : Nat → Prop) (s : State) (S : MS) (H : Heap) (locs : List Loc) : Prop := va_K (rD g) cl0 (tyC g) s ∧ va_P (rD g) cl0 (WdC g ad S) H ∧ va_D A (WdC g ad S) ∧ va_S A s.heap H locs ∧ wfC S
section REPC0
variable {g : Gr} {ad : Nat → Nat} {A : Nat → Prop} {s : State} {S S' : MS} {H H1 : Heap} {locs locs1 : List Loc} {h : Nat}
theorem RepC.K (r : RepC g ad A s S H locs) : va_K (rD g) cl0 (tyC g) s := r.1
theorem RepC.P (r : RepC g ad A s S H locs) : va_P (rD g) cl0 (WdC g ad S) H := r.2.1
theorem RepC.D (r : RepC g ad A s S H locs) : va_D A (WdC g ad S) := r.2.2.1
theorem RepC.sS (r : RepC g ad A s S H locs) : va_S A s.heap H locs := r.2.2.2.1
theorem RepC.w (r : RepC g ad A s S H locs) : wfC S := r.2.2.2.2
theorem RepC.ups (r : RepC g ad A s S H locs) {c : va_E} (hl : h < qn S) (hn : qn S' = qn S) (hne : ∀ a, a ≠ h → celC g ad S' a = celC g ad S a) (hc : celC g ad S' h = c) (hw : wfC S') (hP : va_P (rD g) cl0 ((WdC g ad S).set h (ad h, c)) H1) (hD : va_D A ((WdC g ad S).set h (ad h, c))) (hS : va_S A s.heap H1 locs1) : RepC g ad A s S' H1 locs1 := by
  rw [← WdC_set hl hn hne hc] at hP hD
  exact ⟨r.K, hP, hD, hS, hw⟩
end REPC0
section REPC
variable {g : Gr} {ad : Nat → Nat} {A : Nat → Prop} {s : State} {S : MS} {H H1 : Heap} {locs locs1 : List Loc} {h : Nat}
theorem RepC.atB {t : Nat} (r : RepC g ad A s S H locs) (e : qT S h = t) (ht : 100 < t ∧ t < 200) : (WdC g ad S)[h]? = some (ad h, .inl (g.cB, qN S h, .inl (qI S h))) := WdC_at (r.w.lt e (by omega) (by omega) (by omega)) (celCB e ht)
theorem RepC.atI {t : Nat} (r : RepC g ad A s S H locs) (e : qT S h = t) (ht : 200 < t ∧ t < 300) : (WdC g ad S)[h]? = some (ad h, .inl (g.cI, qN S h, .inl (qI S h))) := WdC_at (r.w.lt e (by omega) (by omega) (by omega)) (celCI e ht)
theorem RepC.atZ {t : Nat} (r : RepC g ad A s S H locs) (e : qT S h = t) (ht : 300 < t ∧ t < 400) : (WdC g ad S)[h]? = some (ad h, .inl (g.cZ, qN S h, .inl (qI S h))) := WdC_at (r.w.lt e (by omega) (by omega) (by omega)) (celCZ e ht)
theorem RepC.atL {t : Nat} (r : RepC g ad A s S H locs) (e : qT S h = t) (ht : 400 < t ∧ t < 500) : (WdC g ad S)[h]? = some (ad h, .inl (g.cL, qN S h, .inr (.inl (qJ S h)))) := WdC_at (r.w.lt e (by omega) (by omega) (by omega)) (celCL e ht)
theorem RepC.at5 (r : RepC g ad A s S H locs) (e : qT S h = 5) : (WdC g ad S)[h]? = some (ad h, .inl (g.cS, qN S h, .inr (.inr (.inr (.inr (fun i => (qR S h i).map ad)))))) := WdC_at (r.w.lt e (by decide) (by decide) (by decide)) (celC5 e)
theorem RepC.at6 (r : RepC g ad A s S H locs) (e : qT S h = 6) : (WdC g ad S)[h]? = some (ad h, .inl (g.cF, qN S h, .inr (.inr (.inr (.inr (fun i => (qR S h i).map ad)))))) := WdC_at (r.w.lt e (by decide) (by decide) (by decide)) (celC6 e)
theorem RepC.at40 (r : RepC g ad A s S H locs) (e : qT S h = 40) : (WdC g ad S)[h]? = some (ad h, .inr (0, FX0 (qI S h) (qJ S h) (qR S h) ad)) := WdC_at (r.w.lt e (by decide) (by decide) (by decide)) (celC40 e)
theorem RepC.at41 (r : RepC g ad A s S H locs) (e : qT S h = 41) : (WdC g ad S)[h]? = some (ad h, .inr (1, FX1 (qI S h) (qJ S h) (qR S h) ad)) := WdC_at (r.w.lt e (by decide) (by decide) (by decide)) (celC41 e)
theorem RepC.at42 (r : RepC g ad A s S H locs) (e : qT S h = 42) : (WdC g ad S)[h]? = some (ad h, .inr (2, FX2 (qI S h) (qJ S h) (qR S h) ad)) := WdC_at (r.w.lt e (by decide) (by decide) (by decide)) (celC42 e)
theorem RepC.at43 (r : RepC g ad A s S H locs) (e : qT S h = 43) : (WdC g ad S)[h]? = some (ad h, .inr (3, FX3 (qI S h) (qJ S h) (qR S h) ad)) := WdC_at (r.w.lt e (by decide) (by decide) (by decide)) (celC43 e)
theorem RepC.at44 (r : RepC g ad A s S H locs) (e : qT S h = 44) : (WdC g ad S)[h]? = some (ad h, .inr (4, FX4 (qI S h) (qJ S h) (qR S h) ad)) := WdC_at (r.w.lt e (by decide) (by decide) (by decide)) (celC44 e)
theorem RepC.at45 (r : RepC g ad A s S H locs) (e : qT S h = 45) : (WdC g ad S)[h]? = some (ad h, .inr (5, FX5 (qI S h) (qJ S h) (qR S h) ad)) := WdC_at (r.w.lt e (by decide) (by decide) (by decide)) (celC45 e)
theorem RepC.at46 (r : RepC g ad A s S H locs) (e : qT S h = 46) : (WdC g ad S)[h]? = some (ad h, .inr (6, FX7 (qI S h) (qJ S h) (qR S h) ad)) := WdC_at (r.w.lt e (by decide) (by decide) (by decide)) (celC46 e)
theorem RepC.at47 (r : RepC g ad A s S H locs) (e : qT S h = 47) : (WdC g ad S)[h]? = some (ad h, .inr (7, FX8 (qI S h) (qJ S h) (qR S h) ad)) := WdC_at (r.w.lt e (by decide) (by decide) (by decide)) (celC47 e)
theorem RepC.at48 (r : RepC g ad A s S H locs) (e : qT S h = 48) : (WdC g ad S)[h]? = some (ad h, .inr (8, FX9 (qI S h) (qJ S h) (qR S h) ad)) := WdC_at (r.w.lt e (by decide) (by decide) (by decide)) (celC48 e)
theorem RepC.at49 (r : RepC g ad A s S H locs) (e : qT S h = 49) : (WdC g ad S)[h]? = some (ad h, .inr (9, FX10 (qI S h) (qJ S h) (qR S h) ad)) := WdC_at (r.w.lt e (by decide) (by decide) (by decide)) (celC49 e)
theorem RepC.at50 (r : RepC g ad A s S H locs) (e : qT S h = 50) : (WdC g ad S)[h]? = some (ad h, .inr (10, FX11 (qI S h) (qJ S h) (qR S h) ad)) := WdC_at (r.w.lt e (by decide) (by decide) (by decide)) (celC50 e)
theorem RepC.at51 (r : RepC g ad A s S H locs) (e : qT S h = 51) : (WdC g ad S)[h]? = some (ad h, .inr (11, FX12 (qI S h) (qJ S h) (qR S h) ad)) := WdC_at (r.w.lt e (by decide) (by decide) (by decide)) (celC51 e)
theorem RepC.pI40 {j : Nat} {v : Int32} (r : RepC g ad A s S H locs) (e : qT S h = 40) (hf : FX0 (upd (qI S h) j v) (qJ S h) (qR S h) ad = (FX0 (qI S h) (qJ S h) (qR S h) ad).set j (.int v)) (hz : ztgC 40 j = true → v = 0 ∨ v = 1) (hP : va_P (rD g) cl0 ((WdC g ad S).set h (ad h, .inr (0, (FX0 (qI S h) (qJ S h) (qR S h) ad).set j (.int v)))) H1) (hD : va_D A ((WdC g ad S).set h (ad h, .inr (0, (FX0 (qI S h) (qJ S h) (qR S h) ad).set j (.int v))))) (hS : va_S A s.heap H1 locs1) : RepC g ad A s (wI S h j v) H1 locs1 :=
  r.ups (h := h) (r.w.lt e (by decide) (by decide) (by decide)) rfl (fun a hne => celC_wI hne) (by rw [celC40 (S := wI S h j v) e, qI_self, ← hf]; rfl) (r.w.putI e (by decide) (fun q => absurd q.1 (by decide)) hz) hP hD hS
theorem RepC.pR40 {j : Nat} {v : Option Nat} (r : RepC g ad A s S H locs) (e : qT S h = 40) (hf : FX0 (qI S h) (qJ S h) (va_up (qR S h) j v) ad = (FX0 (qI S h) (qJ S h) (qR S h) ad).set j (vf ad v)) (hw : wfC (wR S h j v)) (hP : va_P (rD g) cl0 ((WdC g ad S).set h (ad h, .inr (0, (FX0 (qI S h) (qJ S h) (qR S h) ad).set j (vf ad v)))) H1) (hD : va_D A ((WdC g ad S).set h (ad h, .inr (0, (FX0 (qI S h) (qJ S h) (qR S h) ad).set j (vf ad v))))) (hS : va_S A s.heap H1 locs1) : RepC g ad A s (wR S h j v) H1 locs1 :=
  r.ups (h := h) (r.w.lt e (by decide) (by decide) (by decide)) rfl (fun a hne => celC_wR hne) (by rw [celC40 (S := wR S h j v) e, qR_self, ← hf]; rfl) hw hP hD hS
theorem RepC.pI41 {j : Nat} {v : Int32} (r : RepC g ad A s S H locs) (e : qT S h = 41) (hf : FX1 (upd (qI S h) j v) (qJ S h) (qR S h) ad = (FX1 (qI S h) (qJ S h) (qR S h) ad).set j (.int v)) (hz : ztgC 41 j = true → v = 0 ∨ v = 1) (hP : va_P (rD g) cl0 ((WdC g ad S).set h (ad h, .inr (1, (FX1 (qI S h) (qJ S h) (qR S h) ad).set j (.int v)))) H1) (hD : va_D A ((WdC g ad S).set h (ad h, .inr (1, (FX1 (qI S h) (qJ S h) (qR S h) ad).set j (.int v))))) (hS : va_S A s.heap H1 locs1) : RepC g ad A s (wI S h j v) H1 locs1 :=
  r.ups (h := h) (r.w.lt e (by decide) (by decide) (by decide)) rfl (fun a hne => celC_wI hne) (by rw [celC41 (S := wI S h j v) e, qI_self, ← hf]; rfl) (r.w.putI e (by decide) (fun q => absurd q.1 (by decide)) hz) hP hD hS
theorem RepC.pR41 {j : Nat} {v : Option Nat} (r : RepC g ad A s S H locs) (e : qT S h = 41) (hf : FX1 (qI S h) (qJ S h) (va_up (qR S h) j v) ad = (FX1 (qI S h) (qJ S h) (qR S h) ad).set j (vf ad v)) (hw : wfC (wR S h j v)) (hP : va_P (rD g) cl0 ((WdC g ad S).set h (ad h, .inr (1, (FX1 (qI S h) (qJ S h) (qR S h) ad).set j (vf ad v)))) H1) (hD : va_D A ((WdC g ad S).set h (ad h, .inr (1, (FX1 (qI S h) (qJ S h) (qR S h) ad).set j (vf ad v))))) (hS : va_S A s.heap H1 locs1) : RepC g ad A s (wR S h j v) H1 locs1 :=
  r.ups (h := h) (r.w.lt e (by decide) (by decide) (by decide)) rfl (fun a hne => celC_wR hne) (by rw [celC41 (S := wR S h j v) e, qR_self, ← hf]; rfl) hw hP hD hS
theorem RepC.pI42 {j : Nat} {v : Int32} (r : RepC g ad A s S H locs) (e : qT S h = 42) (hf : FX2 (upd (qI S h) j v) (qJ S h) (qR S h) ad = (FX2 (qI S h) (qJ S h) (qR S h) ad).set j (.int v)) (hz : ztgC 42 j = true → v = 0 ∨ v = 1) (hP : va_P (rD g) cl0 ((WdC g ad S).set h (ad h, .inr (2, (FX2 (qI S h) (qJ S h) (qR S h) ad).set j (.int v)))) H1) (hD : va_D A ((WdC g ad S).set h (ad h, .inr (2, (FX2 (qI S h) (qJ S h) (qR S h) ad).set j (.int v))))) (hS : va_S A s.heap H1 locs1) : RepC g ad A s (wI S h j v) H1 locs1 :=
  r.ups (h := h) (r.w.lt e (by decide) (by decide) (by decide)) rfl (fun a hne => celC_wI hne) (by rw [celC42 (S := wI S h j v) e, qI_self, ← hf]; rfl) (r.w.putI e (by decide) (fun q => absurd q.1 (by decide)) hz) hP hD hS
theorem RepC.pJ42 {j : Nat} {v : Int64} (r : RepC g ad A s S H locs) (e : qT S h = 42) (hf : FX2 (qI S h) (vp_updL (qJ S h) j v) (qR S h) ad = (FX2 (qI S h) (qJ S h) (qR S h) ad).set j (.long v)) (hP : va_P (rD g) cl0 ((WdC g ad S).set h (ad h, .inr (2, (FX2 (qI S h) (qJ S h) (qR S h) ad).set j (.long v)))) H1) (hD : va_D A ((WdC g ad S).set h (ad h, .inr (2, (FX2 (qI S h) (qJ S h) (qR S h) ad).set j (.long v))))) (hS : va_S A s.heap H1 locs1) : RepC g ad A s (wJ S h j v) H1 locs1 :=
  r.ups (h := h) (r.w.lt e (by decide) (by decide) (by decide)) rfl (fun a hne => celC_wJ hne) (by rw [celC42 (S := wJ S h j v) e, qJ_self, ← hf]; rfl) r.w hP hD hS
theorem RepC.pR42 {j : Nat} {v : Option Nat} (r : RepC g ad A s S H locs) (e : qT S h = 42) (hf : FX2 (qI S h) (qJ S h) (va_up (qR S h) j v) ad = (FX2 (qI S h) (qJ S h) (qR S h) ad).set j (vf ad v)) (hw : wfC (wR S h j v)) (hP : va_P (rD g) cl0 ((WdC g ad S).set h (ad h, .inr (2, (FX2 (qI S h) (qJ S h) (qR S h) ad).set j (vf ad v)))) H1) (hD : va_D A ((WdC g ad S).set h (ad h, .inr (2, (FX2 (qI S h) (qJ S h) (qR S h) ad).set j (vf ad v))))) (hS : va_S A s.heap H1 locs1) : RepC g ad A s (wR S h j v) H1 locs1 :=
  r.ups (h := h) (r.w.lt e (by decide) (by decide) (by decide)) rfl (fun a hne => celC_wR hne) (by rw [celC42 (S := wR S h j v) e, qR_self, ← hf]; rfl) hw hP hD hS
theorem RepC.pI43 {j : Nat} {v : Int32} (r : RepC g ad A s S H locs) (e : qT S h = 43) (hf : FX3 (upd (qI S h) j v) (qJ S h) (qR S h) ad = (FX3 (qI S h) (qJ S h) (qR S h) ad).set j (.int v)) (hz : ztgC 43 j = true → v = 0 ∨ v = 1) (hP : va_P (rD g) cl0 ((WdC g ad S).set h (ad h, .inr (3, (FX3 (qI S h) (qJ S h) (qR S h) ad).set j (.int v)))) H1) (hD : va_D A ((WdC g ad S).set h (ad h, .inr (3, (FX3 (qI S h) (qJ S h) (qR S h) ad).set j (.int v))))) (hS : va_S A s.heap H1 locs1) : RepC g ad A s (wI S h j v) H1 locs1 :=
  r.ups (h := h) (r.w.lt e (by decide) (by decide) (by decide)) rfl (fun a hne => celC_wI hne) (by rw [celC43 (S := wI S h j v) e, qI_self, ← hf]; rfl) (r.w.putI e (by decide) (fun q => absurd q.1 (by decide)) hz) hP hD hS
theorem RepC.pR43 {j : Nat} {v : Option Nat} (r : RepC g ad A s S H locs) (e : qT S h = 43) (hf : FX3 (qI S h) (qJ S h) (va_up (qR S h) j v) ad = (FX3 (qI S h) (qJ S h) (qR S h) ad).set j (vf ad v)) (hw : wfC (wR S h j v)) (hP : va_P (rD g) cl0 ((WdC g ad S).set h (ad h, .inr (3, (FX3 (qI S h) (qJ S h) (qR S h) ad).set j (vf ad v)))) H1) (hD : va_D A ((WdC g ad S).set h (ad h, .inr (3, (FX3 (qI S h) (qJ S h) (qR S h) ad).set j (vf ad v))))) (hS : va_S A s.heap H1 locs1) : RepC g ad A s (wR S h j v) H1 locs1 :=
  r.ups (h := h) (r.w.lt e (by decide) (by decide) (by decide)) rfl (fun a hne => celC_wR hne) (by rw [celC43 (S := wR S h j v) e, qR_self, ← hf]; rfl) hw hP hD hS
theorem RepC.pI44 {j : Nat} {v : Int32} (r : RepC g ad A s S H locs) (e : qT S h = 44) (hf : FX4 (upd (qI S h) j v) (qJ S h) (qR S h) ad = (FX4 (qI S h) (qJ S h) (qR S h) ad).set j (.int v)) (hz : ztgC 44 j = true → v = 0 ∨ v = 1) (hP : va_P (rD g) cl0 ((WdC g ad S).set h (ad h, .inr (4, (FX4 (qI S h) (qJ S h) (qR S h) ad).set j (.int v)))) H1) (hD : va_D A ((WdC g ad S).set h (ad h, .inr (4, (FX4 (qI S h) (qJ S h) (qR S h) ad).set j (.int v))))) (hS : va_S A s.heap H1 locs1) : RepC g ad A s (wI S h j v) H1 locs1 :=
  r.ups (h := h) (r.w.lt e (by decide) (by decide) (by decide)) rfl (fun a hne => celC_wI hne) (by rw [celC44 (S := wI S h j v) e, qI_self, ← hf]; rfl) (r.w.putI e (by decide) (fun q => absurd q.1 (by decide)) hz) hP hD hS
theorem RepC.pR44 {j : Nat} {v : Option Nat} (r : RepC g ad A s S H locs) (e : qT S h = 44) (hf : FX4 (qI S h) (qJ S h) (va_up (qR S h) j v) ad = (FX4 (qI S h) (qJ S h) (qR S h) ad).set j (vf ad v)) (hw : wfC (wR S h j v)) (hP : va_P (rD g) cl0 ((WdC g ad S).set h (ad h, .inr (4, (FX4 (qI S h) (qJ S h) (qR S h) ad).set j (vf ad v)))) H1) (hD : va_D A ((WdC g ad S).set h (ad h, .inr (4, (FX4 (qI S h) (qJ S h) (qR S h) ad).set j (vf ad v))))) (hS : va_S A s.heap H1 locs1) : RepC g ad A s (wR S h j v) H1 locs1 :=
  r.ups (h := h) (r.w.lt e (by decide) (by decide) (by decide)) rfl (fun a hne => celC_wR hne) (by rw [celC44 (S := wR S h j v) e, qR_self, ← hf]; rfl) hw hP hD hS
theorem RepC.pI45 {j : Nat} {v : Int32} (r : RepC g ad A s S H locs) (e : qT S h = 45) (hf : FX5 (upd (qI S h) j v) (qJ S h) (qR S h) ad = (FX5 (qI S h) (qJ S h) (qR S h) ad).set j (.int v)) (hz : ztgC 45 j = true → v = 0 ∨ v = 1) (hP : va_P (rD g) cl0 ((WdC g ad S).set h (ad h, .inr (5, (FX5 (qI S h) (qJ S h) (qR S h) ad).set j (.int v)))) H1) (hD : va_D A ((WdC g ad S).set h (ad h, .inr (5, (FX5 (qI S h) (qJ S h) (qR S h) ad).set j (.int v))))) (hS : va_S A s.heap H1 locs1) : RepC g ad A s (wI S h j v) H1 locs1 :=
  r.ups (h := h) (r.w.lt e (by decide) (by decide) (by decide)) rfl (fun a hne => celC_wI hne) (by rw [celC45 (S := wI S h j v) e, qI_self, ← hf]; rfl) (r.w.putI e (by decide) (fun q => absurd q.1 (by decide)) hz) hP hD hS
theorem RepC.pJ45 {j : Nat} {v : Int64} (r : RepC g ad A s S H locs) (e : qT S h = 45) (hf : FX5 (qI S h) (vp_updL (qJ S h) j v) (qR S h) ad = (FX5 (qI S h) (qJ S h) (qR S h) ad).set j (.long v)) (hP : va_P (rD g) cl0 ((WdC g ad S).set h (ad h, .inr (5, (FX5 (qI S h) (qJ S h) (qR S h) ad).set j (.long v)))) H1) (hD : va_D A ((WdC g ad S).set h (ad h, .inr (5, (FX5 (qI S h) (qJ S h) (qR S h) ad).set j (.long v))))) (hS : va_S A s.heap H1 locs1) : RepC g ad A s (wJ S h j v) H1 locs1 :=
  r.ups (h := h) (r.w.lt e (by decide) (by decide) (by decide)) rfl (fun a hne => celC_wJ hne) (by rw [celC45 (S := wJ S h j v) e, qJ_self, ← hf]; rfl) r.w hP hD hS
theorem RepC.pR45 {j : Nat} {v : Option Nat} (r : RepC g ad A s S H locs) (e : qT S h = 45) (hf : FX5 (qI S h) (qJ S h) (va_up (qR S h) j v) ad = (FX5 (qI S h) (qJ S h) (qR S h) ad).set j (vf ad v)) (hw : wfC (wR S h j v)) (hP : va_P (rD g) cl0 ((WdC g ad S).set h (ad h, .inr (5, (FX5 (qI S h) (qJ S h) (qR S h) ad).set j (vf ad v)))) H1) (hD : va_D A ((WdC g ad S).set h (ad h, .inr (5, (FX5 (qI S h) (qJ S h) (qR S h) ad).set j (vf ad v))))) (hS : va_S A s.heap H1 locs1) : RepC g ad A s (wR S h j v) H1 locs1 :=
  r.ups (h := h) (r.w.lt e (by decide) (by decide) (by decide)) rfl (fun a hne => celC_wR hne) (by rw [celC45 (S := wR S h j v) e, qR_self, ← hf]; rfl) hw hP hD hS
theorem RepC.pI46 {j : Nat} {v : Int32} (r : RepC g ad A s S H locs) (e : qT S h = 46) (hf : FX7 (upd (qI S h) j v) (qJ S h) (qR S h) ad = (FX7 (qI S h) (qJ S h) (qR S h) ad).set j (.int v)) (hz : ztgC 46 j = true → v = 0 ∨ v = 1) (hP : va_P (rD g) cl0 ((WdC g ad S).set h (ad h, .inr (6, (FX7 (qI S h) (qJ S h) (qR S h) ad).set j (.int v)))) H1) (hD : va_D A ((WdC g ad S).set h (ad h, .inr (6, (FX7 (qI S h) (qJ S h) (qR S h) ad).set j (.int v))))) (hS : va_S A s.heap H1 locs1) : RepC g ad A s (wI S h j v) H1 locs1 :=
  r.ups (h := h) (r.w.lt e (by decide) (by decide) (by decide)) rfl (fun a hne => celC_wI hne) (by rw [celC46 (S := wI S h j v) e, qI_self, ← hf]; rfl) (r.w.putI e (by decide) (fun q => absurd q.1 (by decide)) hz) hP hD hS
theorem RepC.pR46 {j : Nat} {v : Option Nat} (r : RepC g ad A s S H locs) (e : qT S h = 46) (hf : FX7 (qI S h) (qJ S h) (va_up (qR S h) j v) ad = (FX7 (qI S h) (qJ S h) (qR S h) ad).set j (vf ad v)) (hw : wfC (wR S h j v)) (hP : va_P (rD g) cl0 ((WdC g ad S).set h (ad h, .inr (6, (FX7 (qI S h) (qJ S h) (qR S h) ad).set j (vf ad v)))) H1) (hD : va_D A ((WdC g ad S).set h (ad h, .inr (6, (FX7 (qI S h) (qJ S h) (qR S h) ad).set j (vf ad v))))) (hS : va_S A s.heap H1 locs1) : RepC g ad A s (wR S h j v) H1 locs1 :=
  r.ups (h := h) (r.w.lt e (by decide) (by decide) (by decide)) rfl (fun a hne => celC_wR hne) (by rw [celC46 (S := wR S h j v) e, qR_self, ← hf]; rfl) hw hP hD hS
theorem RepC.pI47 {j : Nat} {v : Int32} (r : RepC g ad A s S H locs) (e : qT S h = 47) (hf : FX8 (upd (qI S h) j v) (qJ S h) (qR S h) ad = (FX8 (qI S h) (qJ S h) (qR S h) ad).set j (.int v)) (hz : ztgC 47 j = true → v = 0 ∨ v = 1) (hP : va_P (rD g) cl0 ((WdC g ad S).set h (ad h, .inr (7, (FX8 (qI S h) (qJ S h) (qR S h) ad).set j (.int v)))) H1) (hD : va_D A ((WdC g ad S).set h (ad h, .inr (7, (FX8 (qI S h) (qJ S h) (qR S h) ad).set j (.int v))))) (hS : va_S A s.heap H1 locs1) : RepC g ad A s (wI S h j v) H1 locs1 :=
  r.ups (h := h) (r.w.lt e (by decide) (by decide) (by decide)) rfl (fun a hne => celC_wI hne) (by rw [celC47 (S := wI S h j v) e, qI_self, ← hf]; rfl) (r.w.putI e (by decide) (fun q => absurd q.1 (by decide)) hz) hP hD hS
theorem RepC.pR47 {j : Nat} {v : Option Nat} (r : RepC g ad A s S H locs) (e : qT S h = 47) (hf : FX8 (qI S h) (qJ S h) (va_up (qR S h) j v) ad = (FX8 (qI S h) (qJ S h) (qR S h) ad).set j (vf ad v)) (hw : wfC (wR S h j v)) (hP : va_P (rD g) cl0 ((WdC g ad S).set h (ad h, .inr (7, (FX8 (qI S h) (qJ S h) (qR S h) ad).set j (vf ad v)))) H1) (hD : va_D A ((WdC g ad S).set h (ad h, .inr (7, (FX8 (qI S h) (qJ S h) (qR S h) ad).set j (vf ad v))))) (hS : va_S A s.heap H1 locs1) : RepC g ad A s (wR S h j v) H1 locs1 :=
  r.ups (h := h) (r.w.lt e (by decide) (by decide) (by decide)) rfl (fun a hne => celC_wR hne) (by rw [celC47 (S := wR S h j v) e, qR_self, ← hf]; rfl) hw hP hD hS
theorem RepC.pR48 {j : Nat} {v : Option Nat} (r : RepC g ad A s S H locs) (e : qT S h = 48) (hf : FX9 (qI S h) (qJ S h) (va_up (qR S h) j v) ad = (FX9 (qI S h) (qJ S h) (qR S h) ad).set j (vf ad v)) (hw : wfC (wR S h j v)) (hP : va_P (rD g) cl0 ((WdC g ad S).set h (ad h, .inr (8, (FX9 (qI S h) (qJ S h) (qR S h) ad).set j (vf ad v)))) H1) (hD : va_D A ((WdC g ad S).set h (ad h, .inr (8, (FX9 (qI S h) (qJ S h) (qR S h) ad).set j (vf ad v))))) (hS : va_S A s.heap H1 locs1) : RepC g ad A s (wR S h j v) H1 locs1 :=
  r.ups (h := h) (r.w.lt e (by decide) (by decide) (by decide)) rfl (fun a hne => celC_wR hne) (by rw [celC48 (S := wR S h j v) e, qR_self, ← hf]; rfl) hw hP hD hS
theorem RepC.pI49 {j : Nat} {v : Int32} (r : RepC g ad A s S H locs) (e : qT S h = 49) (hf : FX10 (upd (qI S h) j v) (qJ S h) (qR S h) ad = (FX10 (qI S h) (qJ S h) (qR S h) ad).set j (.int v)) (hz : ztgC 49 j = true → v = 0 ∨ v = 1) (hP : va_P (rD g) cl0 ((WdC g ad S).set h (ad h, .inr (9, (FX10 (qI S h) (qJ S h) (qR S h) ad).set j (.int v)))) H1) (hD : va_D A ((WdC g ad S).set h (ad h, .inr (9, (FX10 (qI S h) (qJ S h) (qR S h) ad).set j (.int v))))) (hS : va_S A s.heap H1 locs1) : RepC g ad A s (wI S h j v) H1 locs1 :=
  r.ups (h := h) (r.w.lt e (by decide) (by decide) (by decide)) rfl (fun a hne => celC_wI hne) (by rw [celC49 (S := wI S h j v) e, qI_self, ← hf]; rfl) (r.w.putI e (by decide) (fun q => absurd q.1 (by decide)) hz) hP hD hS
theorem RepC.pR49 {j : Nat} {v : Option Nat} (r : RepC g ad A s S H locs) (e : qT S h = 49) (hf : FX10 (qI S h) (qJ S h) (va_up (qR S h) j v) ad = (FX10 (qI S h) (qJ S h) (qR S h) ad).set j (vf ad v)) (hw : wfC (wR S h j v)) (hP : va_P (rD g) cl0 ((WdC g ad S).set h (ad h, .inr (9, (FX10 (qI S h) (qJ S h) (qR S h) ad).set j (vf ad v)))) H1) (hD : va_D A ((WdC g ad S).set h (ad h, .inr (9, (FX10 (qI S h) (qJ S h) (qR S h) ad).set j (vf ad v))))) (hS : va_S A s.heap H1 locs1) : RepC g ad A s (wR S h j v) H1 locs1 :=
  r.ups (h := h) (r.w.lt e (by decide) (by decide) (by decide)) rfl (fun a hne => celC_wR hne) (by rw [celC49 (S := wR S h j v) e, qR_self, ← hf]; rfl) hw hP hD hS
theorem RepC.pI50 {j : Nat} {v : Int32} (r : RepC g ad A s S H locs) (e : qT S h = 50) (hf : FX11 (upd (qI S h) j v) (qJ S h) (qR S h) ad = (FX11 (qI S h) (qJ S h) (qR S h) ad).set j (.int v)) (hz : ztgC 50 j = true → v = 0 ∨ v = 1) (hP : va_P (rD g) cl0 ((WdC g ad S).set h (ad h, .inr (10, (FX11 (qI S h) (qJ S h) (qR S h) ad).set j (.int v)))) H1) (hD : va_D A ((WdC g ad S).set h (ad h, .inr (10, (FX11 (qI S h) (qJ S h) (qR S h) ad).set j (.int v))))) (hS : va_S A s.heap H1 locs1) : RepC g ad A s (wI S h j v) H1 locs1 :=
  r.ups (h := h) (r.w.lt e (by decide) (by decide) (by decide)) rfl (fun a hne => celC_wI hne) (by rw [celC50 (S := wI S h j v) e, qI_self, ← hf]; rfl) (r.w.putI e (by decide) (fun q => absurd q.1 (by decide)) hz) hP hD hS
theorem RepC.pR50 {j : Nat} {v : Option Nat} (r : RepC g ad A s S H locs) (e : qT S h = 50) (hf : FX11 (qI S h) (qJ S h) (va_up (qR S h) j v) ad = (FX11 (qI S h) (qJ S h) (qR S h) ad).set j (vf ad v)) (hw : wfC (wR S h j v)) (hP : va_P (rD g) cl0 ((WdC g ad S).set h (ad h, .inr (10, (FX11 (qI S h) (qJ S h) (qR S h) ad).set j (vf ad v)))) H1) (hD : va_D A ((WdC g ad S).set h (ad h, .inr (10, (FX11 (qI S h) (qJ S h) (qR S h) ad).set j (vf ad v))))) (hS : va_S A s.heap H1 locs1) : RepC g ad A s (wR S h j v) H1 locs1 :=
  r.ups (h := h) (r.w.lt e (by decide) (by decide) (by decide)) rfl (fun a hne => celC_wR hne) (by rw [celC50 (S := wR S h j v) e, qR_self, ← hf]; rfl) hw hP hD hS
theorem RepC.pI51 {j : Nat} {v : Int32} (r : RepC g ad A s S H locs) (e : qT S h = 51) (hf : FX12 (upd (qI S h) j v) (qJ S h) (qR S h) ad = (FX12 (qI S h) (qJ S h) (qR S h) ad).set j (.int v)) (hz : ztgC 51 j = true → v = 0 ∨ v = 1) (hP : va_P (rD g) cl0 ((WdC g ad S).set h (ad h, .inr (11, (FX12 (qI S h) (qJ S h) (qR S h) ad).set j (.int v)))) H1) (hD : va_D A ((WdC g ad S).set h (ad h, .inr (11, (FX12 (qI S h) (qJ S h) (qR S h) ad).set j (.int v))))) (hS : va_S A s.heap H1 locs1) : RepC g ad A s (wI S h j v) H1 locs1 :=
  r.ups (h := h) (r.w.lt e (by decide) (by decide) (by decide)) rfl (fun a hne => celC_wI hne) (by rw [celC51 (S := wI S h j v) e, qI_self, ← hf]; rfl) (r.w.putI e (by decide) (fun q => absurd q.1 (by decide)) hz) hP hD hS
theorem RepC.pR51 {j : Nat} {v : Option Nat} (r : RepC g ad A s S H locs) (e : qT S h = 51) (hf : FX12 (qI S h) (qJ S h) (va_up (qR S h) j v) ad = (FX12 (qI S h) (qJ S h) (qR S h) ad).set j (vf ad v)) (hw : wfC (wR S h j v)) (hP : va_P (rD g) cl0 ((WdC g ad S).set h (ad h, .inr (11, (FX12 (qI S h) (qJ S h) (qR S h) ad).set j (vf ad v)))) H1) (hD : va_D A ((WdC g ad S).set h (ad h, .inr (11, (FX12 (qI S h) (qJ S h) (qR S h) ad).set j (vf ad v))))) (hS : va_S A s.heap H1 locs1) : RepC g ad A s (wR S h j v) H1 locs1 :=
  r.ups (h := h) (r.w.lt e (by decide) (by decide) (by decide)) rfl (fun a hne => celC_wR hne) (by rw [celC51 (S := wR S h j v) e, qR_self, ← hf]; rfl) hw hP hD hS
theorem RepC.aB {i : Nat} {v : Int32} {t : Nat} (r : RepC g ad A s S H locs) (e : qT S h = t) (ht : 100 < t ∧ t < 200) (hb : fits .byte (.int v) = true) (hP : va_P (rD g) cl0 ((WdC g ad S).set h (ad h, .inl (g.cB, qN S h, .inl (upd (qI S h) i v)))) H1) (hD : va_D A ((WdC g ad S).set h (ad h, .inl (g.cB, qN S h, .inl (upd (qI S h) i v))))) (hS : va_S A s.heap H1 locs1) : RepC g ad A s (wI S h i v) H1 locs1 :=
  r.ups (h := h) (r.w.lt e (by omega) (by omega) (by omega)) rfl (fun a hne => celC_wI hne) (by rw [celCB (S := wI S h i v) e ht, qI_self]; rfl) (r.w.putI e (by omega) (fun _ => hb) (fun q => absurd q (zB ht))) hP hD hS
theorem RepC.cB {f : Nat → Int32} {t : Nat} (r : RepC g ad A s S H locs) (e : qT S h = t) (ht : 100 < t ∧ t < 200) (hb : ∀ i, fits .byte (.int (f i)) = true) (hP : va_P (rD g) cl0 ((WdC g ad S).set h (ad h, .inl (g.cB, qN S h, .inl f))) H1) (hD : va_D A ((WdC g ad S).set h (ad h, .inl (g.cB, qN S h, .inl f)))) (hS : va_S A s.heap H1 locs1) : RepC g ad A s (wC S h f) H1 locs1 :=
  r.ups (h := h) (r.w.lt e (by omega) (by omega) (by omega)) rfl (fun a hne => celC_eq (if_neg hne) rfl rfl rfl rfl) (by rw [celCB (S := wC S h f) e ht, show qI (wC S h f) h = f from if_pos rfl]; rfl) (r.w.putC e (by omega) (fun _ => hb) (fun _ q => absurd q (zB ht))) hP hD hS
theorem RepC.aI {i : Nat} {v : Int32} {t : Nat} (r : RepC g ad A s S H locs) (e : qT S h = t) (ht : 200 < t ∧ t < 300) (hP : va_P (rD g) cl0 ((WdC g ad S).set h (ad h, .inl (g.cI, qN S h, .inl (upd (qI S h) i v)))) H1) (hD : va_D A ((WdC g ad S).set h (ad h, .inl (g.cI, qN S h, .inl (upd (qI S h) i v))))) (hS : va_S A s.heap H1 locs1) : RepC g ad A s (wI S h i v) H1 locs1 :=
  r.ups (h := h) (r.w.lt e (by omega) (by omega) (by omega)) rfl (fun a hne => celC_wI hne) (by rw [celCI (S := wI S h i v) e ht, qI_self]; rfl) (r.w.putI e (by omega) (fun q => absurd q.2 (by omega)) (fun q => absurd q (zI ht))) hP hD hS
theorem RepC.cI {f : Nat → Int32} {t : Nat} (r : RepC g ad A s S H locs) (e : qT S h = t) (ht : 200 < t ∧ t < 300) (hP : va_P (rD g) cl0 ((WdC g ad S).set h (ad h, .inl (g.cI, qN S h, .inl f))) H1) (hD : va_D A ((WdC g ad S).set h (ad h, .inl (g.cI, qN S h, .inl f)))) (hS : va_S A s.heap H1 locs1) : RepC g ad A s (wC S h f) H1 locs1 :=
  r.ups (h := h) (r.w.lt e (by omega) (by omega) (by omega)) rfl (fun a hne => celC_eq (if_neg hne) rfl rfl rfl rfl) (by rw [celCI (S := wC S h f) e ht, show qI (wC S h f) h = f from if_pos rfl]; rfl) (r.w.putC e (by omega) (fun q => absurd q.2 (by omega)) (fun _ q => absurd q (zI ht))) hP hD hS
theorem RepC.aZ {i : Nat} {v : Int32} {t : Nat} (r : RepC g ad A s S H locs) (e : qT S h = t) (ht : 300 < t ∧ t < 400) (hb : v = 0 ∨ v = 1) (hP : va_P (rD g) cl0 ((WdC g ad S).set h (ad h, .inl (g.cZ, qN S h, .inl (upd (qI S h) i v)))) H1) (hD : va_D A ((WdC g ad S).set h (ad h, .inl (g.cZ, qN S h, .inl (upd (qI S h) i v))))) (hS : va_S A s.heap H1 locs1) : RepC g ad A s (wI S h i v) H1 locs1 :=
  r.ups (h := h) (r.w.lt e (by omega) (by omega) (by omega)) rfl (fun a hne => celC_wI hne) (by rw [celCZ (S := wI S h i v) e ht, qI_self]; rfl) (r.w.putI e (by omega) (fun q => absurd q.2 (by omega)) (fun _ => hb)) hP hD hS
theorem RepC.aL {i : Nat} {v : Int64} {t : Nat} (r : RepC g ad A s S H locs) (e : qT S h = t) (ht : 400 < t ∧ t < 500) (hP : va_P (rD g) cl0 ((WdC g ad S).set h (ad h, .inl (g.cL, qN S h, .inr (.inl (vp_updL (qJ S h) i v))))) H1) (hD : va_D A ((WdC g ad S).set h (ad h, .inl (g.cL, qN S h, .inr (.inl (vp_updL (qJ S h) i v)))))) (hS : va_S A s.heap H1 locs1) : RepC g ad A s (wJ S h i v) H1 locs1 :=
  r.ups (h := h) (r.w.lt e (by omega) (by omega) (by omega)) rfl (fun a hne => celC_wJ hne) (by rw [celCL (S := wJ S h i v) e ht, qJ_self]; rfl) r.w hP hD hS
theorem RepC.cL {f : Nat → Int64} {t : Nat} (r : RepC g ad A s S H locs) (e : qT S h = t) (ht : 400 < t ∧ t < 500) (hP : va_P (rD g) cl0 ((WdC g ad S).set h (ad h, .inl (g.cL, qN S h, .inr (.inl f)))) H1) (hD : va_D A ((WdC g ad S).set h (ad h, .inl (g.cL, qN S h, .inr (.inl f))))) (hS : va_S A s.heap H1 locs1) : RepC g ad A s (wL S h f) H1 locs1 :=
  r.ups (h := h) (r.w.lt e (by omega) (by omega) (by omega)) rfl (fun a hne => celC_eq rfl (if_neg hne) rfl rfl rfl) (by rw [celCL (S := wL S h f) e ht, show qJ (wL S h f) h = f from if_pos rfl]; rfl) r.w hP hD hS
theorem RepC.a5 {i b : Nat} (r : RepC g ad A s S H locs) (e : qT S h = 5) (hw : wfC (wR S h i (some b))) (hP : va_P (rD g) cl0 ((WdC g ad S).set h (ad h, .inl (g.cS, qN S h, .inr (.inr (.inr (.inr (va_up (fun i => (qR S h i).map ad) i (some (ad b))))))))) H1) (hD : va_D A ((WdC g ad S).set h (ad h, .inl (g.cS, qN S h, .inr (.inr (.inr (.inr (va_up (fun i => (qR S h i).map ad) i (some (ad b)))))))))) (hS : va_S A s.heap H1 locs1) : RepC g ad A s (wR S h i (some b)) H1 locs1 :=
  r.ups (h := h) (r.w.lt e (by decide) (by decide) (by decide)) rfl (fun a hne => celC_wR hne) (by rw [celC5 (S := wR S h i (some b)) e, qR_self, up_map]; rfl) hw hP hD hS
theorem RepC.a6 {i b : Nat} (r : RepC g ad A s S H locs) (e : qT S h = 6) (hw : wfC (wR S h i (some b))) (hP : va_P (rD g) cl0 ((WdC g ad S).set h (ad h, .inl (g.cF, qN S h, .inr (.inr (.inr (.inr (va_up (fun i => (qR S h i).map ad) i (some (ad b))))))))) H1) (hD : va_D A ((WdC g ad S).set h (ad h, .inl (g.cF, qN S h, .inr (.inr (.inr (.inr (va_up (fun i => (qR S h i).map ad) i (some (ad b)))))))))) (hS : va_S A s.heap H1 locs1) : RepC g ad A s (wR S h i (some b)) H1 locs1 :=
  r.ups (h := h) (r.w.lt e (by decide) (by decide) (by decide)) rfl (fun a hne => celC_wR hne) (by rw [celC6 (S := wR S h i (some b)) e, qR_self, up_map]; rfl) hw hP hD hS
end REPC
theorem toI_len {n : Nat} (h : n ≤ 8388608) : (Int32.ofNat n).toInt = (n : Int) := nI_toInt (by omega)
theorem fit_nb (x : Int32) : fits .byte (.int (vp_nar .byte x)) = true := by
  show fits .byte (.int x.toInt8.toInt32) = true
  have h1 := Int8.toInt_lt x.toInt8
  have h2 := Int8.le_toInt x.toInt8
  have e : x.toInt8.toInt32.toInt = x.toInt8.toInt := Int8.toInt_toInt32 _
  have m1 : (-128 : Int32).toInt = -128 := (by decide)
  have m2 : (127 : Int32).toInt = 127 := (by decide)
  have a : (-128 : Int32) ≤ x.toInt8.toInt32 := Int32.le_iff_toInt_le.mpr (by rw [e, m1]; omega)
  have b : x.toInt8.toInt32 ≤ (127 : Int32) := Int32.le_iff_toInt_le.mpr (by rw [e, m2]; omega)
  simp [fits, a, b]
theorem bit_nz {x : Int32} (h : x = 0 ∨ x = 1) : vp_nar .boolean x = x := by rcases h with rfl | rfl <;> rfl
theorem bit_nz2 {x : Int32} (h : x = 0 ∨ x = 1) : vp_nar .boolean x = 0 ∨ vp_nar .boolean x = 1 := by rw [bit_nz h]; exact h
theorem bit_or {x y : Int32} (h : x = 0 ∨ x = 1) (h' : y = 0 ∨ y = 1) : (x ||| y) = 0 ∨ (x ||| y) = 1 := by rcases h with rfl | rfl <;> rcases h' with rfl | rfl <;> decide
theorem fit_cpy {f g : Nat → Int32} {a b n : Nat} (hf : ∀ i, fits .byte (.int (f i)) = true) (hg : ∀ i, fits .byte (.int (g i)) = true) : ∀ i, fits .byte (.int (va_cpy f g a b n i)) = true := fun i => by
  unfold va_cpy
  split
  · exact hf _
  · exact hg _
/-- the rows of numbers that the class keeps for all its objects -/
def saC (C n : String) (L : List Int32) (A : Nat → Prop) (U : State) (H : Heap) : Prop := ∃ t : Nat, va_Z C n "[I" (.ref t) A U H ∧ va_T .int t L.length (fun j => .int (L.getD j 0)) A U H
theorem saC.moved {C n : String} {L : List Int32} {A : Nat → Prop} {u U : State} {H : Heap} (hvm : u.vm.Alike U.vm) (h : saC C n L A u H) : saC C n L A U H := h.imp (fun _ q => ⟨va_Z.moved hvm q.1, va_T.moved hvm q.2⟩)
theorem saC.kept {C n : String} {L : List Int32} {A : Nat → Prop} {U : State} {H H1 : Heap} (h : saC C n L A U H) (hq : ∀ a : Nat, a < H.size → ¬ A a → H1[a]? = H[a]?) : saC C n L A U H1 := h.imp (fun _ q => ⟨va_Z.kept q.1 hq, va_T.kept q.2 hq⟩)
theorem saC.narrow {C n : String} {L : List Int32} {A B : Nat → Prop} {U : State} {H : Heap} (h : saC C n L A U H) (hAB : ∀ q, B q → A q) : saC C n L B U H := h.imp (fun _ q => ⟨va_Z.narrow q.1 hAB, va_T.narrow q.2 hAB⟩)
/-- the class's environment: its texts, its rows of numbers -/
def s4C (A : Nat → Prop) (U : State) (H : Heap) : Prop := saC "CodeFoundry" "MAGIC" stMG A U H ∧ saC RX6 "LENGTH_OF" stLN A U H ∧ saC RX6 "TAKES_OF" stTK A U H ∧ saC RX6 "GIVES_OF" stGV A U H
theorem s4C.moved {A : Nat → Prop} {u U : State} {H : Heap} (hvm : u.vm.Alike U.vm) (h : s4C A u H) : s4C A U H := ⟨saC.moved hvm h.1, saC.moved hvm h.2.1, saC.moved hvm h.2.2.1, saC.moved hvm h.2.2.2⟩
theorem s4C.kept {A : Nat → Prop} {U : State} {H H1 : Heap} (h : s4C A U H) (hq : ∀ a : Nat, a < H.size → ¬ A a → H1[a]? = H[a]?) : s4C A U H1 := ⟨h.1.kept hq, h.2.1.kept hq, h.2.2.1.kept hq, h.2.2.2.kept hq⟩
theorem s4C.narrow {A B : Nat → Prop} {U : State} {H : Heap} (h : s4C A U H) (hAB : ∀ q, B q → A q) : s4C B U H := ⟨h.1.narrow hAB, h.2.1.narrow hAB, h.2.2.1.narrow hAB, h.2.2.2.narrow hAB⟩
def ogC (ad : Nat → Nat) (A : Nat → Prop) (U : State) (H : Heap) : Prop := (jE A U H ∧ s4C A U H) ∧ (∀ i : Nat, i < NTC → tx1 (ad (TXB + 2 * i)) (ad (TXB + 2 * i + 1)) (sLc.getD i 0) (fun k => (sBc.getD i []).getD k 0) A U H) ∧ ∀ x ∈ ldcC, vk_R x.1 x.2.1 x.2.2.1 (ad (TXB + 2 * x.2.2.2)) U
theorem ogC.pass {ad : Nat → Nat} {A B : Nat → Prop} {s U : State} {H : Heap} {locs : List Loc} (h : ogC ad A s s.heap) (hS : va_S A s.heap H locs) (hF : ∀ q, B q → A q) (hU : U.heap = H) (hW : s.WarmedH U.vm) : ogC ad B U U.heap := by
  rw [hU]
  exact ⟨⟨((h.1.1.kept hS.2.1).narrow hF).moved hW.alike, ((h.1.2.kept hS.2.1).narrow hF).moved hW.alike⟩, fun i hi => (((h.2.1 i hi).kept hS.2.1).narrow hF).moved hW.alike, fun x hx => (h.2.2 x hx).warm hW⟩
theorem ogC.calling {ad : Nat → Nat} {A : Nat → Prop} {U : State} {f : JFrame} {mk : MethodId} {a : Array Value} (h : ogC ad A U U.heap) : ogC ad A (U.calling f mk a) (U.calling f mk a).heap := ⟨⟨jE.moved (u := U) (Vm.Alike.refl U.vm) h.1.1, s4C.moved (u := U) (Vm.Alike.refl U.vm) h.1.2⟩, fun i hi => tx1.moved (u := U) (Vm.Alike.refl U.vm) (h.2.1 i hi), fun x hx => vk_R.same (u := U) rfl (h.2.2 x hx)⟩
def st_C (g : Gr) (ad : Nat → Nat) (sz : Nat) (S : MS) (U : State) : Prop := U.heap.size = sz ∧ va_P (rD g) cl0 (WdC g ad S) U.heap ∧ va_K (rD g) cl0 (tyC g) U ∧ va_D (fun _ => True) (WdC g ad S) ∧ ex U ∧ ogC ad (va_A (WdC g ad S) sz) U U.heap
theorem cblind {av : List Value} {g : Gr} {ad : Nat → Nat} {sz : Nat} {S : MS} : FrameBlind (va_Pc av (st_C g ad sz S)) := fun a U f mk q => by
  obtain ⟨q0, q1, qP, qK, qD, qE, qO⟩ := q
  exact ⟨q0, q1, qP, va_K.moved (u := U) (U := U.calling f mk a) (Vm.Alike.refl U.vm) qK, qD, ex_same (u := U) rfl qE, qO.calling⟩
theorem cfree {g : Gr} {ad : Nat → Nat} {A : Nat → Prop} {s : State} {S : MS} {H : Heap} {locs : List Loc} (r : RepC g ad A s S H locs) (hA : ∀ q, s.heap.size ≤ q → A q) : ∀ q, va_A (WdC g ad S) H.size q → A q := by
  intro q h
  rcases h with ⟨k, x, h⟩ | h
  · exact r.D.2 k (q, x) h
  · exact hA q (Nat.le_trans r.sS.1 h)
theorem cmk {av : List Value} {g : Gr} {ad : Nat → Nat} {A : Nat → Prop} {s U : State} {S : MS} {H : Heap} {locs : List Loc} (hU : U.heap = H) (hW : s.WarmedH U.vm) (r : RepC g ad A s S H locs) (hex : ex s) (hE : ogC ad A s s.heap) (hF : ∀ q, va_A (WdC g ad S) H.size q → A q) : va_Pc av (st_C g ad H.size S) av.toArray U :=
  ⟨rfl, by rw [hU], by rw [hU]; exact r.P, va_K.moved hW.alike r.K, r.D.weaken (fun _ _ _ _ => trivial), ex_warm hW hex, hE.pass r.sS hF hU hW⟩
def qEC (g : Gr) (ad : Nat → Nat) (A : Nat → Prop) (u : MS) (t : State) : Prop := va_P (rD g) cl0 (WdC g ad u) t.heap ∧ va_D A (WdC g ad u)
theorem RepC.call {g : Gr} {ad : Nat → Nat} {A : Nat → Prop} {s t : State} {S u : MS} {H H1 : Heap} {locs locs1 : List Loc} (r : RepC g ad A s S H locs) (ht : t.heap = H1) (hB : qEC g ad (va_A (WdC g ad S) H.size) u t) (hw : wfC u) (hS : va_S A s.heap H1 locs1) (hF : ∀ q, va_A (WdC g ad S) H.size q → A q) : RepC g ad A s u H1 locs1 :=
  ⟨r.K, by rw [← ht]; exact hB.1, hB.2.weaken (fun _ _ _ h => hF _ h), hS, hw⟩
def KCC : Nat := 300000
def KSC : Nat := 3553400
theorem wfC.hd {S : MS} {b t : Nat} (h : wfC S) (e : qT S b = t) (h0 : t ≠ 0) (h22 : t ≠ 22) : b < qn S ∨ TXB ≤ b := by
  by_cases e12 : t = 12
  · obtain ⟨i, -, rfl⟩ := h.t12 b (by omega)
    exact Or.inr (by omega)
  · exact Or.inl (h.lt e h0 e12 h22)
theorem ogC.ad {ad ad' : Nat → Nat} {A : Nat → Prop} {U : State} {H : Heap} {S : MS} (h : ogC ad A U H) (k : adk ad ad' S) : ogC ad' A U H := by
  refine ⟨h.1, fun i hi => ?_, fun x hx => ?_⟩
  · rw [k _ (Or.inr (by omega)), k _ (Or.inr (by omega))]
    exact h.2.1 i hi
  · rw [k _ (Or.inr (by omega))]
    exact h.2.2 x hx
def lgC (S U : MS) (dc ds : Nat) : Prop := dc = qn U - qn S ∧ ds = qu U - qu S ∧ qn S ≤ qn U ∧ qu S ≤ qu U ∧ dc ≤ KCC - qn S ∧ ds ≤ KSC - qu S
theorem lgC.rf {S : MS} : lgC S S 0 0 := ⟨by omega, by omega, Nat.le_refl _, Nat.le_refl _, Nat.zero_le _, Nat.zero_le _⟩
theorem lgC.new {S U : MS} {dc ds t n k : Nat} (h : lgC S U dc ds) (hc : qn U + 1 ≤ KCC ∧ qu U + k ≤ KSC) : lgC S (wN U t n k) (dc + 1) (ds + k) := by
  obtain ⟨h1, h2, h3, h4, h5, h6⟩ := h
  have e1 : qn (wN U t n k) = qn U + 1 := rfl
  have e2 : qu (wN U t n k) = qu U + k := rfl
  refine ⟨by omega, by omega, by omega, by omega, by omega, by omega⟩
theorem lgC.call {S U V : MS} {dc ds ec es : Nat} (h : lgC S U dc ds) (k : lgC U V ec es) : lgC S V (dc + ec) (ds + es) := by
  obtain ⟨h1, h2, h3, h4, h5, h6⟩ := h
  obtain ⟨k1, k2, k3, k4, k5, k6⟩ := k
  refine ⟨by omega, by omega, by omega, by omega, by omega, by omega⟩
theorem lgC.c {S U : MS} {dc ds : Nat} (h : lgC S U dc ds) : dc + 0 ≤ KCC - qn S := h.2.2.2.2.1
theorem lgC.s {S U : MS} {dc ds : Nat} (h : lgC S U dc ds) : ds + 0 ≤ KSC - qu S := h.2.2.2.2.2
theorem lgC.c1 {S U : MS} {dc ds : Nat} (h : lgC S U dc ds) (hc : qn U + 1 ≤ KCC) : dc + 1 ≤ KCC - qn S := by
  obtain ⟨h1, h2, h3, h4, h5, h6⟩ := h
  omega
theorem lgC.s1 {S U : MS} {dc ds k : Nat} (h : lgC S U dc ds) (hc : qu U + k ≤ KSC) : ds + k ≤ KSC - qu S := by
  obtain ⟨h1, h2, h3, h4, h5, h6⟩ := h
  omega
theorem lgC.cm {S U : MS} {dc ds : Nat} (h : lgC S U dc ds) : dc + (KCC - qn U) ≤ KCC - qn S := by
  obtain ⟨h1, h2, h3, h4, h5, h6⟩ := h
  omega
theorem lgC.sm {S U : MS} {dc ds : Nat} (h : lgC S U dc ds) : ds + (KSC - qu U) ≤ KSC - qu S := by
  obtain ⟨h1, h2, h3, h4, h5, h6⟩ := h
  omega
theorem lgC.same {S U V : MS} {dc ds : Nat} (h : lgC S U dc ds) (k : shy U V) : lgC S V dc ds := by
  obtain ⟨h1, h2, h3, h4, h5, h6⟩ := h
  refine ⟨by rw [k.2.1]; exact h1, by rw [k.2.2]; exact h2, by rw [k.2.1]; exact h3, by rw [k.2.2]; exact h4, h5, h6⟩
def st_CH (g : Gr) (ad : Nat → Nat) (H0 : Heap) (S : MS) (U : State) : Prop := U.heap = H0 ∧ st_C g ad H0.size S U
theorem cblindH {av : List Value} {g : Gr} {ad : Nat → Nat} {H0 : Heap} {S : MS} : FrameBlind (va_Pc av (st_CH g ad H0 S)) := fun a U f mk q => ⟨(cblind a U f mk ⟨q.1, q.2.2⟩).1, q.2.1, (cblind a U f mk ⟨q.1, q.2.2⟩).2⟩
theorem cmkH {av : List Value} {g : Gr} {ad : Nat → Nat} {A : Nat → Prop} {s U : State} {S : MS} {H : Heap} {locs : List Loc} (hU : U.heap = H) (hW : s.WarmedH U.vm) (r : RepC g ad A s S H locs) (hex : ex s) (hE : ogC ad A s s.heap) (hF : ∀ q, va_A (WdC g ad S) H.size q → A q) : va_Pc av (st_CH g ad H S) av.toArray U := ⟨rfl, hU, (cmk (av := av) hU hW r hex hE hF).2⟩
def qEHC (g : Gr) (A : Nat → Prop) (S : MS) (H0 : Heap) (u : MS × (Nat → Nat)) (t : State) : Prop := qEC g u.2 A u.1 t ∧ ∃ dc ds : Nat, Led2 H0 t.heap dc ds ∧ lgC S u.1 dc ds
theorem RepC.callH {g : Gr} {ad ad' : Nat → Nat} {A : Nat → Prop} {s t : State} {S u : MS} {H H1 : Heap} {locs locs1 : List Loc} (r : RepC g ad A s S H locs) (ht : t.heap = H1) (hB : qEC g ad' (va_A (WdC g ad S) H.size) u t) (hw : wfC u) (hS : va_S A s.heap H1 locs1) (hF : ∀ q, va_A (WdC g ad S) H.size q → A q) : RepC g ad' A s u H1 locs1 :=
  ⟨r.K, by rw [← ht]; exact hB.1, hB.2.weaken (fun _ _ _ h => hF _ h), hS, hw⟩
theorem cls_new3 {g : Gr} {s : State} {cA cB : ClassId} {ty : FieldType} {k : Nat} (hK : va_K (rD g) cl0 (tyC g) s) (hK' : va_K (rD g) cl0 (tyC g ++ [(cA, ty)]) s) (hk : (tyC g)[k]? = some (cB, ty)) (hp : ∀ C, ty ≠ .object C) : cB = cA := by
  have h1 := (hK.2 k _ hk).2
  have h2 := (hK'.2 6 (cA, ty) rfl).2
  cases ty with
  | object C => exact absurd rfl (hp C)
  | _ => exact Option.some.inj (h1.symm.trans h2)
theorem cls_newR3 {g : Gr} {s : State} {cA cB : ClassId} {C : String} {k : Nat} (hK : va_K (rD g) cl0 (tyC g) s) (hK' : va_K (rD g) cl0 (tyC g ++ [(cA, .object C)]) s) (hk : (tyC g)[k]? = some (cB, .object C)) : cB = cA := by
  obtain ⟨_, _, _, _, _, h1⟩ := (hK.2 k _ hk).2
  obtain ⟨_, _, _, _, _, h2⟩ := (hK'.2 6 (cA, .object C) rfl).2
  exact Option.some.inj (h1.symm.trans h2)
theorem wfC.nx {S : MS} (h : wfC S) (hT : qn S < TXB) : qT S (qn S) = 0 := by
  by_cases e0 : qT S (qn S) = 0
  · exact e0
  · exfalso
    by_cases e12 : qT S (qn S) = 12
    · obtain ⟨i, -, h1⟩ := h.t12 _ e12
      omega
    · by_cases e22 : qT S (qn S) = 22
      · have := h.t22 _ e22; omega
      · exact absurd (h.lt4 _ e0 e12 e22) (Nat.lt_irrefl _)
theorem fit_0 : fits .byte (.int (0 : Int32)) = true := by decide
theorem wfC.own {S : MS} (h : wfC S) : ∀ q ∈ finC, qT S q.1 ≠ 0 := by
  intro q hq
  rcases finC_own q hq with h0 | ⟨p, hp, h1, -⟩
  · rw [h0, h.1]; decide
  · rw [← h1, (h.2.1 p hp).2.1]; exact (finC_ok p hp).1
theorem wfC.new {S : MS} {t n k : Nat} (h : wfC S) (hT : qn S < TXB) (ht : t ≠ 0 ∧ t ≠ 12 ∧ t ≠ 22) (hn : n ≤ 8388608) : wfC (wN S t n k) := by
  have z := h.nx hT
  have eT : ∀ a, a ≠ qn S → qT (wN S t n k) a = qT S a := fun a ha => if_neg ha
  have eN : ∀ a, a ≠ qn S → qN (wN S t n k) a = qN S a := fun a ha => if_neg ha
  have eI : ∀ a, a ≠ qn S → qI (wN S t n k) a = qI S a := fun a ha => if_neg ha
  have eR : ∀ a, a ≠ qn S → qR (wN S t n k) a = qR S a := fun a ha => if_neg ha
  have sT : qT (wN S t n k) (qn S) = t := if_pos rfl
  have sI : qI (wN S t n k) (qn S) = fun _ => 0 := if_pos rfl
  have sR : qR (wN S t n k) (qn S) = fun _ => none := if_pos rfl
  have en : qn (wN S t n k) = qn S + 1 := rfl
  have ne : ∀ {a x : Nat}, qT S a = x → x ≠ 0 → a ≠ qn S := fun e e0 q => e0 (by rw [← e, q, z])
  refine ⟨?_, fun q hq => ?_, fun a j b e => ?_, fun b e0 e12 e22 => ?_, fun b e => ?_, fun i hi => ?_, by omega, fun b e => ?_, fun b i e => ?_, fun b j e => ?_, fun b e => ?_, fun p hp => ?_⟩
  · rw [eT 0 (ne h.1 (by decide))]; exact h.1
  · obtain ⟨f1, f2, f3⟩ := finC_ok q hq
    obtain ⟨q1, q2, q3⟩ := h.2.1 q hq
    rw [eR q.1 (ne rfl (h.own q hq)), eT _ (ne q2 f1), eN _ (ne q2 f1)]
    exact ⟨q1, q2, q3⟩
  · by_cases ea : a = qn S
    · rw [ea, sR] at e; cases e
    · rw [eR a ea] at e
      obtain ⟨q1, q2, q3⟩ := h.rf3 a j b e
      rw [eT a ea, eT b (ne q1 q2)]
      exact ⟨q1, q2, q3⟩
  · by_cases eb : b = qn S
    · omega
    · rw [eT b eb] at e0 e12 e22
      have := h.lt4 b e0 e12 e22
      omega
  · by_cases eb : b = qn S
    · rw [eb, sT] at e; exact absurd e ht.2.1
    · rw [eT b eb] at e
      exact h.t12 b e
  · obtain ⟨h1, h2, h3, h4⟩ := h.tx6 i hi
    rw [eT _ (by omega), eT _ (by omega), eN _ (by omega), eI _ (by omega)]
    exact ⟨h1, h2, h3, h4⟩
  · by_cases eb : b = qn S
    · rw [eb, sT] at e; exact absurd e ht.2.2
    · rw [eT b eb] at e; exact h.t22 b e
  · by_cases eb : b = qn S
    · rw [eb, sI]; exact fit_0
    · rw [eT b eb] at e; rw [eI b eb]; exact h.by9 b i e
  · by_cases eb : b = qn S
    · rw [eb, sI]; exact Or.inl rfl
    · rw [eT b eb] at e; rw [eI b eb]; exact h.bz b j e
  · by_cases eb : b = qn S
    · rw [eb]; show (if qn S = qn S then n else qN S (qn S)) ≤ _; rw [if_pos rfl]; exact hn
    · rw [eT b eb] at e; rw [eN b eb]; exact h.ln b e
  · rw [eR p.1 (ne rfl (h.pto p hp))]; exact h.pt p hp
theorem celC_ad {g : Gr} {ad ad' : Nat → Nat} {S : MS} {h : Nat} (hr : ∀ j b : Nat, qR S h j = some b → ad' b = ad b) : celC g ad' S h = celC g ad S h := by
  have er : ∀ j, vf ad' (qR S h j) = vf ad (qR S h j) := fun j => by
    cases e : qR S h j with
    | none => rfl
    | some b => show Value.ref (ad' b) = Value.ref (ad b); rw [hr j b e]
  have em : (fun i => (qR S h i).map ad') = fun i => (qR S h i).map ad := by
    funext j
    cases e : qR S h j with
    | none => rfl
    | some b => show some (ad' b) = some (ad b); rw [hr j b e]
  unfold celC
  rw [em, show FX0 (qI S h) (qJ S h) (qR S h) ad' = FX0 (qI S h) (qJ S h) (qR S h) ad by unfold FX0; simp only [er], show FX1 (qI S h) (qJ S h) (qR S h) ad' = FX1 (qI S h) (qJ S h) (qR S h) ad by unfold FX1; simp only [er], show FX2 (qI S h) (qJ S h) (qR S h) ad' = FX2 (qI S h) (qJ S h) (qR S h) ad by unfold FX2; simp only [er], show FX3 (qI S h) (qJ S h) (qR S h) ad' = FX3 (qI S h) (qJ S h) (qR S h) ad by unfold FX3; simp only [er], show FX4 (qI S h) (qJ S h) (qR S h) ad' = FX4 (qI S h) (qJ S h) (qR S h) ad by unfold FX4; simp only [er], show FX5 (qI S h) (qJ S h) (qR S h) ad' = FX5 (qI S h) (qJ S h) (qR S h) ad by unfold FX5; simp only [er], show FX7 (qI S h) (qJ S h) (qR S h) ad' = FX7 (qI S h) (qJ S h) (qR S h) ad by unfold FX7; simp only [er], show FX8 (qI S h) (qJ S h) (qR S h) ad' = FX8 (qI S h) (qJ S h) (qR S h) ad by unfold FX8; simp only [er], show FX9 (qI S h) (qJ S h) (qR S h) ad' = FX9 (qI S h) (qJ S h) (qR S h) ad by unfold FX9; simp only [er], show FX10 (qI S h) (qJ S h) (qR S h) ad' = FX10 (qI S h) (qJ S h) (qR S h) ad by unfold FX10; simp only [er], show FX11 (qI S h) (qJ S h) (qR S h) ad' = FX11 (qI S h) (qJ S h) (qR S h) ad by unfold FX11; simp only [er], show FX12 (qI S h) (qJ S h) (qR S h) ad' = FX12 (qI S h) (qJ S h) (qR S h) ad by unfold FX12; simp only [er]]
theorem WdC_new {g : Gr} {ad : Nat → Nat} {S : MS} {t n k q : Nat} (h : wfC S) (hT : qn S < TXB) : WdC g (adx ad (qn S) q) (wN S t n k) = WdC g ad S ++ [(q, celC g (adx ad (qn S) q) (wN S t n k) (qn S))] := by
  have z := h.nx hT
  show ((List.range (qn S + 1)).map (fun h => (adx ad (qn S) q h, celC g (adx ad (qn S) q) (wN S t n k) h))) = _
  rw [List.range_succ, List.map_append, List.map_singleton, show adx ad (qn S) q (qn S) = q from if_pos rfl]
  congr 1
  unfold WdC
  apply List.map_congr_left
  intro a ha
  have hl := List.mem_range.mp ha
  have hne : a ≠ qn S := by omega
  rw [show adx ad (qn S) q a = ad a from if_neg hne]
  congr 1
  rw [celC_eq (S' := wN S t n k) (S := S) (if_neg hne) (if_neg hne) (if_neg hne) (if_neg hne) (if_neg hne)]
  refine celC_ad (fun j b e => if_neg (fun e2 => ?_))
  obtain ⟨q1, q2, -⟩ := h.rf3 a j b e
  exact q2 (by rw [← q1, e2, z])
theorem RepC.new {g : Gr} {ad : Nat → Nat} {A : Nat → Prop} {s : State} {S : MS} {H H1 : Heap} {locs locs1 : List Loc} {t n k q : Nat} {c : va_E} (r : RepC g ad A s S H locs) (hT : qn S < TXB) (ht : t ≠ 0 ∧ t ≠ 12 ∧ t ≠ 22) (hn : n ≤ 8388608) (hc : celC g (adx ad (qn S) q) (wN S t n k) (qn S) = c) (hP : va_P (rD g) cl0 (WdC g ad S ++ [(q, c)]) H1) (hD : va_D A (WdC g ad S ++ [(q, c)])) (hS : va_S A s.heap H1 locs1) : RepC g (adx ad (qn S) q) A s (wN S t n k) H1 locs1 := by
  refine ⟨r.K, ?_, ?_, hS, r.w.new hT ht hn⟩
  · rw [WdC_new r.w hT, hc]; exact hP
  · rw [WdC_new r.w hT, hc]; exact hD
theorem wN_TC {S : MS} {t n k : Nat} : qT (wN S t n k) (qn S) = t := if_pos rfl
theorem wN_CB {g : Gr} {ad : Nat → Nat} {S : MS} {t n k : Nat} (ht : 100 < t ∧ t < 200) : celC g ad (wN S t n k) (qn S) = .inl (g.cB, n, .inl (fun _ => 0)) := by rw [celCB wN_TC ht, show qN (wN S t n k) (qn S) = n from if_pos rfl, show qI (wN S t n k) (qn S) = fun _ => 0 from if_pos rfl]
theorem wN_CI {g : Gr} {ad : Nat → Nat} {S : MS} {t n k : Nat} (ht : 200 < t ∧ t < 300) : celC g ad (wN S t n k) (qn S) = .inl (g.cI, n, .inl (fun _ => 0)) := by rw [celCI wN_TC ht, show qN (wN S t n k) (qn S) = n from if_pos rfl, show qI (wN S t n k) (qn S) = fun _ => 0 from if_pos rfl]
theorem wN_CZ {g : Gr} {ad : Nat → Nat} {S : MS} {t n k : Nat} (ht : 300 < t ∧ t < 400) : celC g ad (wN S t n k) (qn S) = .inl (g.cZ, n, .inl (fun _ => 0)) := by rw [celCZ wN_TC ht, show qN (wN S t n k) (qn S) = n from if_pos rfl, show qI (wN S t n k) (qn S) = fun _ => 0 from if_pos rfl]
theorem wN_CL {g : Gr} {ad : Nat → Nat} {S : MS} {t n k : Nat} (ht : 400 < t ∧ t < 500) : celC g ad (wN S t n k) (qn S) = .inl (g.cL, n, .inr (.inl (fun _ => 0))) := by rw [celCL wN_TC ht, show qN (wN S t n k) (qn S) = n from if_pos rfl, show qJ (wN S t n k) (qn S) = fun _ => 0 from if_pos rfl]
theorem wN_C5 {g : Gr} {ad : Nat → Nat} {S : MS} {n k : Nat} : celC g ad (wN S 5 n k) (qn S) = .inl (g.cS, n, .inr (.inr (.inr (.inr (fun _ => none))))) := by rw [celC5 wN_TC, show qN (wN S 5 n k) (qn S) = n from if_pos rfl, show qR (wN S 5 n k) (qn S) = fun _ => none from if_pos rfl]; rfl
theorem wN_C6 {g : Gr} {ad : Nat → Nat} {S : MS} {n k : Nat} : celC g ad (wN S 6 n k) (qn S) = .inl (g.cF, n, .inr (.inr (.inr (.inr (fun _ => none))))) := by rw [celC6 wN_TC, show qN (wN S 6 n k) (qn S) = n from if_pos rfl, show qR (wN S 6 n k) (qn S) = fun _ => none from if_pos rfl]; rfl
theorem wN_C40 {g : Gr} {ad : Nat → Nat} {S : MS} {n k : Nat} : celC g ad (wN S 40 n k) (qn S) = .inr (0, FX0 (fun _ => 0) (fun _ => 0) (fun _ => none) ad) := by rw [celC40 wN_TC, show qI (wN S 40 n k) (qn S) = fun _ => 0 from if_pos rfl, show qJ (wN S 40 n k) (qn S) = fun _ => 0 from if_pos rfl, show qR (wN S 40 n k) (qn S) = fun _ => none from if_pos rfl]
theorem wN_C41 {g : Gr} {ad : Nat → Nat} {S : MS} {n k : Nat} : celC g ad (wN S 41 n k) (qn S) = .inr (1, FX1 (fun _ => 0) (fun _ => 0) (fun _ => none) ad) := by rw [celC41 wN_TC, show qI (wN S 41 n k) (qn S) = fun _ => 0 from if_pos rfl, show qJ (wN S 41 n k) (qn S) = fun _ => 0 from if_pos rfl, show qR (wN S 41 n k) (qn S) = fun _ => none from if_pos rfl]
theorem wN_C42 {g : Gr} {ad : Nat → Nat} {S : MS} {n k : Nat} : celC g ad (wN S 42 n k) (qn S) = .inr (2, FX2 (fun _ => 0) (fun _ => 0) (fun _ => none) ad) := by rw [celC42 wN_TC, show qI (wN S 42 n k) (qn S) = fun _ => 0 from if_pos rfl, show qJ (wN S 42 n k) (qn S) = fun _ => 0 from if_pos rfl, show qR (wN S 42 n k) (qn S) = fun _ => none from if_pos rfl]
theorem wN_C43 {g : Gr} {ad : Nat → Nat} {S : MS} {n k : Nat} : celC g ad (wN S 43 n k) (qn S) = .inr (3, FX3 (fun _ => 0) (fun _ => 0) (fun _ => none) ad) := by rw [celC43 wN_TC, show qI (wN S 43 n k) (qn S) = fun _ => 0 from if_pos rfl, show qJ (wN S 43 n k) (qn S) = fun _ => 0 from if_pos rfl, show qR (wN S 43 n k) (qn S) = fun _ => none from if_pos rfl]
theorem wN_C44 {g : Gr} {ad : Nat → Nat} {S : MS} {n k : Nat} : celC g ad (wN S 44 n k) (qn S) = .inr (4, FX4 (fun _ => 0) (fun _ => 0) (fun _ => none) ad) := by rw [celC44 wN_TC, show qI (wN S 44 n k) (qn S) = fun _ => 0 from if_pos rfl, show qJ (wN S 44 n k) (qn S) = fun _ => 0 from if_pos rfl, show qR (wN S 44 n k) (qn S) = fun _ => none from if_pos rfl]
theorem wN_C45 {g : Gr} {ad : Nat → Nat} {S : MS} {n k : Nat} : celC g ad (wN S 45 n k) (qn S) = .inr (5, FX5 (fun _ => 0) (fun _ => 0) (fun _ => none) ad) := by rw [celC45 wN_TC, show qI (wN S 45 n k) (qn S) = fun _ => 0 from if_pos rfl, show qJ (wN S 45 n k) (qn S) = fun _ => 0 from if_pos rfl, show qR (wN S 45 n k) (qn S) = fun _ => none from if_pos rfl]
theorem wN_C46 {g : Gr} {ad : Nat → Nat} {S : MS} {n k : Nat} : celC g ad (wN S 46 n k) (qn S) = .inr (6, FX7 (fun _ => 0) (fun _ => 0) (fun _ => none) ad) := by rw [celC46 wN_TC, show qI (wN S 46 n k) (qn S) = fun _ => 0 from if_pos rfl, show qJ (wN S 46 n k) (qn S) = fun _ => 0 from if_pos rfl, show qR (wN S 46 n k) (qn S) = fun _ => none from if_pos rfl]
theorem wN_C47 {g : Gr} {ad : Nat → Nat} {S : MS} {n k : Nat} : celC g ad (wN S 47 n k) (qn S) = .inr (7, FX8 (fun _ => 0) (fun _ => 0) (fun _ => none) ad) := by rw [celC47 wN_TC, show qI (wN S 47 n k) (qn S) = fun _ => 0 from if_pos rfl, show qJ (wN S 47 n k) (qn S) = fun _ => 0 from if_pos rfl, show qR (wN S 47 n k) (qn S) = fun _ => none from if_pos rfl]
theorem wN_C48 {g : Gr} {ad : Nat → Nat} {S : MS} {n k : Nat} : celC g ad (wN S 48 n k) (qn S) = .inr (8, FX9 (fun _ => 0) (fun _ => 0) (fun _ => none) ad) := by rw [celC48 wN_TC, show qI (wN S 48 n k) (qn S) = fun _ => 0 from if_pos rfl, show qJ (wN S 48 n k) (qn S) = fun _ => 0 from if_pos rfl, show qR (wN S 48 n k) (qn S) = fun _ => none from if_pos rfl]
theorem wN_C49 {g : Gr} {ad : Nat → Nat} {S : MS} {n k : Nat} : celC g ad (wN S 49 n k) (qn S) = .inr (9, FX10 (fun _ => 0) (fun _ => 0) (fun _ => none) ad) := by rw [celC49 wN_TC, show qI (wN S 49 n k) (qn S) = fun _ => 0 from if_pos rfl, show qJ (wN S 49 n k) (qn S) = fun _ => 0 from if_pos rfl, show qR (wN S 49 n k) (qn S) = fun _ => none from if_pos rfl]
theorem wN_C50 {g : Gr} {ad : Nat → Nat} {S : MS} {n k : Nat} : celC g ad (wN S 50 n k) (qn S) = .inr (10, FX11 (fun _ => 0) (fun _ => 0) (fun _ => none) ad) := by rw [celC50 wN_TC, show qI (wN S 50 n k) (qn S) = fun _ => 0 from if_pos rfl, show qJ (wN S 50 n k) (qn S) = fun _ => 0 from if_pos rfl, show qR (wN S 50 n k) (qn S) = fun _ => none from if_pos rfl]
theorem shx.newC {S U : MS} {t n k : Nat} (h : shx S U) (hw : wfC U) (hT : qn U < TXB) : shx S (wN U t n k) := h.tr ⟨fun b hb => by
  have hne : b ≠ qn U := fun e => hb (by rw [e, hw.nx hT])
  exact ⟨if_neg hne, if_neg hne⟩, Nat.le_succ _⟩
/-- a copy of a row -/
def wKC (S : MS) (t h k : Nat) : MS := wC (wN S t (qN S h) k) (qn S) (qI S h)
theorem wfC.clone {S : MS} {t t0 h k : Nat} (w : wfC S) (hT : qn S < TXB) (e : qT S h = t0) (h0 : 100 < t0 ∧ t0 < 200) (ht : 100 < t ∧ t < 200) : wfC (wKC S t h k) := wfC.putC (t := t) (w.new hT (by omega) (w.len9 e (by omega))) (if_pos rfl) (by omega) (fun q i => w.by e h0) (fun j q => absurd q (zB ht))
theorem RepC.clone {g : Gr} {ad : Nat → Nat} {A : Nat → Prop} {s : State} {S : MS} {H H1 : Heap} {locs locs1 : List Loc} {t t0 h k q : Nat} (r : RepC g ad A s S H locs) (hT : qn S < TXB) (e : qT S h = t0) (h0 : 100 < t0 ∧ t0 < 200) (ht : 100 < t ∧ t < 200) (hP : va_P (rD g) cl0 (WdC g ad S ++ [(q, .inl (g.cB, qN S h, .inl (qI S h)))]) H1) (hD : va_D A (WdC g ad S ++ [(q, .inl (g.cB, qN S h, .inl (qI S h)))])) (hS : va_S A s.heap H1 locs1) : RepC g (adx ad (qn S) q) A s (wKC S t h k) H1 locs1 := by
  have ew : WdC g (adx ad (qn S) q) (wKC S t h k) = WdC g ad S ++ [(q, .inl (g.cB, qN S h, .inl (qI S h)))] := by
    have e1 : celC g (adx ad (qn S) q) (wKC S t h k) (qn S) = .inl (g.cB, qN S h, .inl (qI S h)) := by
      rw [celCB (S := wKC S t h k) (t := t) (if_pos rfl) ht, show qN (wKC S t h k) (qn S) = qN S h from if_pos rfl, show qI (wKC S t h k) (qn S) = qI S h from if_pos rfl]
    have e2 := WdC_new (g := g) (ad := ad) (t := t) (n := qN S h) (k := k) (q := q) r.w hT
    have e3 : WdC g (adx ad (qn S) q) (wKC S t h k) = (WdC g (adx ad (qn S) q) (wN S t (qN S h) k)).set (qn S) (adx ad (qn S) q (qn S), .inl (g.cB, qN S h, .inl (qI S h))) :=
      WdC_set (S' := wKC S t h k) (S := wN S t (qN S h) k) (h := qn S) (Nat.lt_succ_self _) rfl (fun a ha => celC_eq (S' := wKC S t h k) (S := wN S t (qN S h) k) (show (if a = qn S then qI S h else qI (wN S t (qN S h) k) a) = _ from if_neg ha) rfl rfl rfl rfl) e1
    have hlen : (WdC g ad S).length = qn S := by unfold WdC; rw [List.length_map, List.length_range]
    rw [e3, e2, show adx ad (qn S) q (qn S) = q from if_pos rfl, List.set_append_right _ _ (by omega), hlen, Nat.sub_self]
    rfl
  refine ⟨r.K, ?_, ?_, hS, r.w.clone hT e h0 ht⟩
  · rw [ew]; exact hP
  · rw [ew]; exact hD
theorem sLc_small : ∀ i : Nat, i < NTC → sLc.getD i 0 < 2147483648 := by decide
theorem wfC.txt {S : MS} (h : wfC S) {i : Nat} (hi : i < NTC) : qT S (TXB + 2 * i) = 12 := (h.tx6 i hi).1
theorem wfC.len {S : MS} {b : Nat} (h : wfC S) (e : qT S b = 12) : qN S (b + 1) < 2147483648 := by
  obtain ⟨i, hi, rfl⟩ := h.t12 b e
  rw [(h.tx6 i hi).2.2.1]
  exact sLc_small i hi
theorem str_atC {g : Gr} {ad : Nat → Nat} {A : Nat → Prop} {s U : State} {S : MS} {H : Heap} {locs : List Loc} {b : Nat} (r : RepC g ad A s S H locs) (hE : ogC ad A s s.heap) (hA : ∀ q, s.heap.size ≤ q → A q) (e : qT S b = 12) (hU : U.heap = H) (hW : s.WarmedH U.vm) : tx1 (ad b) (ad (b + 1)) (qN S (b + 1)) (qI S (b + 1)) (Ns H.size) U U.heap := by
  rw [hU]
  obtain ⟨i, hi, rfl⟩ := r.w.t12 b e
  obtain ⟨-, -, q1, q2⟩ := r.w.tx6 i hi
  rw [q1, show qI S (TXB + 2 * i + 1) = fun k => (sBc.getD i []).getD k 0 from funext q2]
  exact (((hE.2.1 i hi).kept r.sS.2.1).narrow (fun q h => hA q (Nat.le_trans r.sS.1 h))).moved hW.alike
theorem RepC.keep {g : Gr} {ad : Nat → Nat} {A : Nat → Prop} {s : State} {S : MS} {H H1 : Heap} {locs locs1 : List Loc} (r : RepC g ad A s S H locs) (hk : ∀ q : Nat, q < H.size → ¬ Ns H.size q → H1[q]? = H[q]?) (hS : va_S A s.heap H1 locs1) : RepC g ad A s S H1 locs1 :=
  ⟨r.K, r.P.kept (fun k x hx => hk x.1 (r.P k x hx).lt (fun q => absurd (r.P k x hx).lt (Nat.not_lt.mpr q))), r.D, hS, r.w⟩
theorem strC {g : Gr} {ad : Nat → Nat} {A : Nat → Prop} {s : State} {S : MS} {H : Heap} {locs : List Loc} {b : Nat} (r : RepC g ad A s S H locs) (hE : ogC ad A s s.heap) (e : qT S b = 12) : ∃ cell : Cell, H[ad b]? = some cell ∧ cell.vm.isStatics = false ∧ s.vm.findClass "java/lang/String" = some cell.cls := by
  obtain ⟨i, hi, rfl⟩ := r.w.t12 b e
  exact va_Orecv (hE.2.1 i hi).1 r.sS
/-- the map of addresses tells handles apart -/
theorem RepC.inj {g : Gr} {ad : Nat → Nat} {A : Nat → Prop} {s : State} {S : MS} {H : Heap} {locs : List Loc} {a b : Nat} (r : RepC g ad A s S H locs) (ha : a < qn S) (hb : b < qn S) (e : ad a = ad b) : a = b := r.D.1 a b _ _ (WdC_at ha rfl) (WdC_at hb rfl) e

theorem RepC.opt_inj {g : Gr} {ad : Nat → Nat} {A : Nat → Prop} {s : State} {S : MS} {H : Heap} {locs : List Loc} {x y : Option Nat} (r : RepC g ad A s S H locs) (hx : ∀ z, x = some z → z < qn S) (hy : ∀ z, y = some z → z < qn S) (e : x.map ad = y.map ad) : x = y := by
  cases x with
  | none => cases y with
    | none => rfl
    | some b => cases e
  | some a => cases y with
    | none => cases e
    | some b => rw [r.inj (hx a rfl) (hy b rfl) (Option.some.inj e)]
theorem nopC_25_15 : ¬ ∃ p ∈ ptrC, p.1 = 25 ∧ p.2 = 15 := by decide
theorem nopC_44_12 : ¬ ∃ p ∈ ptrC, p.1 = 44 ∧ p.2 = 12 := by decide
theorem nofC_9_0 : ∀ q ∈ finC, ¬ (q.1 = 9 ∧ q.2.1 = 0) := by decide
theorem nofC_16_1 : ∀ q ∈ finC, ¬ (q.1 = 16 ∧ q.2.1 = 1) := by decide
theorem nofC_16_2 : ∀ q ∈ finC, ¬ (q.1 = 16 ∧ q.2.1 = 2) := by decide
theorem nofC_16_3 : ∀ q ∈ finC, ¬ (q.1 = 16 ∧ q.2.1 = 3) := by decide
theorem nofC_16_8 : ∀ q ∈ finC, ¬ (q.1 = 16 ∧ q.2.1 = 8) := by decide
theorem nofC_16_9 : ∀ q ∈ finC, ¬ (q.1 = 16 ∧ q.2.1 = 9) := by decide
theorem nofC_25_7 : ∀ q ∈ finC, ¬ (q.1 = 25 ∧ q.2.1 = 7) := by decide
theorem nofC_25_15 : ∀ q ∈ finC, ¬ (q.1 = 25 ∧ q.2.1 = 15) := by decide
theorem nofC_25_16 : ∀ q ∈ finC, ¬ (q.1 = 25 ∧ q.2.1 = 16) := by decide
theorem nofC_25_17 : ∀ q ∈ finC, ¬ (q.1 = 25 ∧ q.2.1 = 17) := by decide
theorem nofC_44_0 : ∀ q ∈ finC, ¬ (q.1 = 44 ∧ q.2.1 = 0) := by decide
theorem nofC_44_2 : ∀ q ∈ finC, ¬ (q.1 = 44 ∧ q.2.1 = 2) := by decide
theorem nofC_44_4 : ∀ q ∈ finC, ¬ (q.1 = 44 ∧ q.2.1 = 4) := by decide
theorem nofC_44_8 : ∀ q ∈ finC, ¬ (q.1 = 44 ∧ q.2.1 = 8) := by decide
theorem nofC_44_9 : ∀ q ∈ finC, ¬ (q.1 = 44 ∧ q.2.1 = 9) := by decide
theorem nofC_44_12 : ∀ q ∈ finC, ¬ (q.1 = 44 ∧ q.2.1 = 12) := by decide
theorem nofC_52_0 : ∀ q ∈ finC, ¬ (q.1 = 52 ∧ q.2.1 = 0) := by decide
theorem nofC_52_2 : ∀ q ∈ finC, ¬ (q.1 = 52 ∧ q.2.1 = 2) := by decide
theorem nofC_52_3 : ∀ q ∈ finC, ¬ (q.1 = 52 ∧ q.2.1 = 3) := by decide
theorem nofC_52_4 : ∀ q ∈ finC, ¬ (q.1 = 52 ∧ q.2.1 = 4) := by decide
theorem nofC_52_5 : ∀ q ∈ finC, ¬ (q.1 = 52 ∧ q.2.1 = 5) := by decide
theorem nofC_52_6 : ∀ q ∈ finC, ¬ (q.1 = 52 ∧ q.2.1 = 6) := by decide
theorem nofC_52_7 : ∀ q ∈ finC, ¬ (q.1 = 52 ∧ q.2.1 = 7) := by decide
theorem nofC_52_8 : ∀ q ∈ finC, ¬ (q.1 = 52 ∧ q.2.1 = 8) := by decide
theorem nofC_52_9 : ∀ q ∈ finC, ¬ (q.1 = 52 ∧ q.2.1 = 9) := by decide
theorem nofC_52_11 : ∀ q ∈ finC, ¬ (q.1 = 52 ∧ q.2.1 = 11) := by decide
theorem nofC_52_12 : ∀ q ∈ finC, ¬ (q.1 = 52 ∧ q.2.1 = 12) := by decide
theorem nofC_52_13 : ∀ q ∈ finC, ¬ (q.1 = 52 ∧ q.2.1 = 13) := by decide
theorem nofC_52_14 : ∀ q ∈ finC, ¬ (q.1 = 52 ∧ q.2.1 = 14) := by decide
theorem nofC_52_15 : ∀ q ∈ finC, ¬ (q.1 = 52 ∧ q.2.1 = 15) := by decide
theorem nofC_66_0 : ∀ q ∈ finC, ¬ (q.1 = 66 ∧ q.2.1 = 0) := by decide
theorem nofC_66_2 : ∀ q ∈ finC, ¬ (q.1 = 66 ∧ q.2.1 = 2) := by decide
theorem nofC_66_3 : ∀ q ∈ finC, ¬ (q.1 = 66 ∧ q.2.1 = 3) := by decide
theorem nofC_66_4 : ∀ q ∈ finC, ¬ (q.1 = 66 ∧ q.2.1 = 4) := by decide
theorem nofC_66_5 : ∀ q ∈ finC, ¬ (q.1 = 66 ∧ q.2.1 = 5) := by decide
