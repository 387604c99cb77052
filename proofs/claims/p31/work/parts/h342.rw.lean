set_option maxRecDepth 100000 in
theorem sgX8_set {B : Nat × Nat} {S : MS} {p0 : Nat} {x1 : Int32} {x2 : Int32} {y3 : Int64} (hw : wfC S) (g : ShC B S) (k_p0 : qT S p0 = 47) : wX8_set S p0 x1 x2 y3 (fun u => ShC B u ∧ (True)) := by
  unfold wX8_set
  refine ⟨fun c0_ => ?_, fun c0_ => ?_⟩
  · exact ⟨g, trivial⟩
  · refine ⟨?_, ?_⟩
    · exact (g.row k_p0).1.1
    refine ⟨fun c1_ => ?_, fun c1_ => ?_⟩
    · exact ⟨g, trivial⟩
    · refine ⟨?_, ?_⟩
      · exact (g.row k_p0).1.1
      refine ⟨?_, ?_⟩
      · have s2_ := (g.row k_p0).2
        have n1_ := rgI x1
        omega
      intro S9_3 eS9_3 y1_ y2_
      have f4_ : cfr [222] [] S S9_3 := by rw [eS9_3]; exact cfr.aI y1_ (by decide)
      have t5_ : (qI S9_3 p0 2).toInt = (qI S p0 2).toInt := congrArg Int32.toInt (f4_.kI (j := 2) k_p0 (by decide) (by decide))
      have t6_ : (qI S9_3 p0 9).toInt = (qI S p0 9).toInt := congrArg Int32.toInt (f4_.kI (j := 9) k_p0 (by decide) (by decide))
      have t7_ : (qI S9_3 p0 4).toInt = (qI S p0 4).toInt := congrArg Int32.toInt (f4_.kI (j := 4) k_p0 (by decide) (by decide))
      have t8_ : (qN S9_3 (qO S9_3 p0 1) : Int) = (qN S (qO S p0 1) : Int) := f4_.kL (j := 1) hw k_p0 (g.row k_p0).1.2.1 (by decide) (by decide)
      have t9_ : (qN S9_3 (qO S9_3 p0 8) : Int) = (qN S (qO S p0 8) : Int) := f4_.kL (j := 8) hw k_p0 (g.row k_p0).1.2.2.2.2.2.2 (by decide) (by decide)
      have t10_ : (qN S9_3 (qO S9_3 p0 7) : Int) = (qN S (qO S p0 7) : Int) := f4_.kL (j := 7) hw k_p0 (g.row k_p0).1.2.2.2.2.2.1 (by decide) (by decide)
      have t11_ : (qN S9_3 (qO S9_3 p0 0) : Int) = (qN S (qO S p0 0) : Int) := f4_.kL (j := 0) hw k_p0 (g.row k_p0).1.1 (by decide) (by decide)
      have t12_ : (qN S9_3 (qO S9_3 p0 6) : Int) = (qN S (qO S p0 6) : Int) := f4_.kL (j := 6) hw k_p0 (g.row k_p0).1.2.2.2.2.1 (by decide) (by decide)
      have t13_ : (qN S9_3 (qO S9_3 p0 3) : Int) = (qN S (qO S p0 3) : Int) := f4_.kL (j := 3) hw k_p0 (g.row k_p0).1.2.2.1 (by decide) (by decide)
      have t14_ : (qN S9_3 (qO S9_3 p0 5) : Int) = (qN S (qO S p0 5) : Int) := f4_.kL (j := 5) hw k_p0 (g.row k_p0).1.2.2.2.1 (by decide) (by decide)
      have k15_ : qT S9_3 p0 = 47 := f4_.1.T k_p0 (by decide)
      have g : ShC B S9_3 := ShC.ws hw g f4_ (by rw [eS9_3]; rfl) (by rw [eS9_3]; rfl) (by rw [eS9_3]; rfl) rfl rfl
      refine ⟨?_, ?_⟩
      · exact (g.row k15_).1.2.1
      refine ⟨?_, ?_⟩
      · have s16_ := (g.row k15_).2
        have n1_ := rgI x1
        omega
      intro S13_17 eS13_17 y3_ y4_
      have f18_ : cfr [406] [] S9_3 S13_17 := by rw [eS13_17]; exact cfr.aJ y3_ (by decide)
      have t19_ : (qI S13_17 p0 2).toInt = (qI S9_3 p0 2).toInt := congrArg Int32.toInt (f18_.kI (j := 2) k15_ (by decide) (by decide))
      have t20_ : (qI S13_17 p0 9).toInt = (qI S9_3 p0 9).toInt := congrArg Int32.toInt (f18_.kI (j := 9) k15_ (by decide) (by decide))
      have t21_ : (qI S13_17 p0 4).toInt = (qI S9_3 p0 4).toInt := congrArg Int32.toInt (f18_.kI (j := 4) k15_ (by decide) (by decide))
      have t22_ : (qN S13_17 (qO S13_17 p0 1) : Int) = (qN S9_3 (qO S9_3 p0 1) : Int) := f18_.kL (j := 1) y2_ k15_ (g.row k15_).1.2.1 (by decide) (by decide)
      have t23_ : (qN S13_17 (qO S13_17 p0 8) : Int) = (qN S9_3 (qO S9_3 p0 8) : Int) := f18_.kL (j := 8) y2_ k15_ (g.row k15_).1.2.2.2.2.2.2 (by decide) (by decide)
      have t24_ : (qN S13_17 (qO S13_17 p0 7) : Int) = (qN S9_3 (qO S9_3 p0 7) : Int) := f18_.kL (j := 7) y2_ k15_ (g.row k15_).1.2.2.2.2.2.1 (by decide) (by decide)
      have t25_ : (qN S13_17 (qO S13_17 p0 0) : Int) = (qN S9_3 (qO S9_3 p0 0) : Int) := f18_.kL (j := 0) y2_ k15_ (g.row k15_).1.1 (by decide) (by decide)
      have t26_ : (qN S13_17 (qO S13_17 p0 6) : Int) = (qN S9_3 (qO S9_3 p0 6) : Int) := f18_.kL (j := 6) y2_ k15_ (g.row k15_).1.2.2.2.2.1 (by decide) (by decide)
      have t27_ : (qN S13_17 (qO S13_17 p0 3) : Int) = (qN S9_3 (qO S9_3 p0 3) : Int) := f18_.kL (j := 3) y2_ k15_ (g.row k15_).1.2.2.1 (by decide) (by decide)
      have t28_ : (qN S13_17 (qO S13_17 p0 5) : Int) = (qN S9_3 (qO S9_3 p0 5) : Int) := f18_.kL (j := 5) y2_ k15_ (g.row k15_).1.2.2.2.1 (by decide) (by decide)
      have k29_ : qT S13_17 p0 = 47 := f18_.1.T k15_ (by decide)
      have g : ShC B S13_17 := ShC.ws y2_ g f18_ (by rw [eS13_17]; rfl) (by rw [eS13_17]; rfl) (by rw [eS13_17]; rfl) rfl rfl
      exact ⟨g, trivial⟩
set_option maxRecDepth 100000 in
theorem sgX8_add {B : Nat × Nat} {S : MS} {p0 : Nat} {x1 : Int32} {y2 : Int64} (hw : wfC S) (g : ShC B S) (k_p0 : qT S p0 = 47) : wX8_add S p0 x1 y2 (fun u => ShC B u ∧ (True)) := by
  unfold wX8_add
  refine ⟨?_, ?_⟩
  · exact (g.row k_p0).1.1
  refine ⟨fun c0_ => ?_, fun c0_ => ?_⟩
  · exact ⟨g, trivial⟩
  · intro y1_
    refine ⟨_, frX8_set hw (sgX8_set hw g y1_), ?_⟩
    intro S6_1 q2_ y3_ y4_
    have t2_ : (qI S6_1 p0 2).toInt = (qI S p0 2).toInt := congrArg Int32.toInt (q2_.2.kI (j := 2) y1_ (by decide) (by decide))
    have t3_ : (qI S6_1 p0 9).toInt = (qI S p0 9).toInt := congrArg Int32.toInt (q2_.2.kI (j := 9) y1_ (by decide) (by decide))
    have t4_ : (qI S6_1 p0 4).toInt = (qI S p0 4).toInt := congrArg Int32.toInt (q2_.2.kI (j := 4) y1_ (by decide) (by decide))
    have t5_ : (qN S6_1 (qO S6_1 p0 1) : Int) = (qN S (qO S p0 1) : Int) := q2_.2.kL (j := 1) hw y1_ (g.row y1_).1.2.1 (by decide) (by decide)
    have t6_ : (qN S6_1 (qO S6_1 p0 8) : Int) = (qN S (qO S p0 8) : Int) := q2_.2.kL (j := 8) hw y1_ (g.row y1_).1.2.2.2.2.2.2 (by decide) (by decide)
    have t7_ : (qN S6_1 (qO S6_1 p0 7) : Int) = (qN S (qO S p0 7) : Int) := q2_.2.kL (j := 7) hw y1_ (g.row y1_).1.2.2.2.2.2.1 (by decide) (by decide)
    have t8_ : (qN S6_1 (qO S6_1 p0 0) : Int) = (qN S (qO S p0 0) : Int) := q2_.2.kL (j := 0) hw y1_ (g.row y1_).1.1 (by decide) (by decide)
    have t9_ : (qN S6_1 (qO S6_1 p0 6) : Int) = (qN S (qO S p0 6) : Int) := q2_.2.kL (j := 6) hw y1_ (g.row y1_).1.2.2.2.2.1 (by decide) (by decide)
    have t10_ : (qN S6_1 (qO S6_1 p0 3) : Int) = (qN S (qO S p0 3) : Int) := q2_.2.kL (j := 3) hw y1_ (g.row y1_).1.2.2.1 (by decide) (by decide)
    have t11_ : (qN S6_1 (qO S6_1 p0 5) : Int) = (qN S (qO S p0 5) : Int) := q2_.2.kL (j := 5) hw y1_ (g.row y1_).1.2.2.2.1 (by decide) (by decide)
    have k12_ : qT S6_1 p0 = 47 := q2_.2.1.T y1_ (by decide)
    have g : ShC B S6_1 := q2_.1.1
    intro S9_13 eS9_13 y5_ y6_
    have f14_ : cfr [] [(47, 2)] S6_1 S9_13 := by rw [eS9_13]; exact cfr.oI y5_ (by decide)
    have b16_ : 0 ≤ (((qI S6_1 p0 2) + (1 : Int32))).toInt ∧ (((qI S6_1 p0 2) + (1 : Int32))).toInt ≤ (qN S6_1 (qO S6_1 p0 0) : Int) := by
      have s15_ := (g.row k12_).2
      have n2_ := rgI (qI S6_1 p0 2)
      have n3_ := li_1k
      have n3_ := t_addD (a := (qI S6_1 p0 2)) (b := (1 : Int32))
      have n4_ := rgI ((qI S6_1 p0 2) + (1 : Int32))
      have n5_ := rgI (qI S p0 2)
      omega
    have t17_ : (qI S9_13 p0 9).toInt = (qI S6_1 p0 9).toInt := congrArg Int32.toInt (f14_.kI (j := 9) k12_ (by decide) (by decide))
    have t18_ : (qI S9_13 p0 4).toInt = (qI S6_1 p0 4).toInt := congrArg Int32.toInt (f14_.kI (j := 4) k12_ (by decide) (by decide))
    have t19_ : (qN S9_13 (qO S9_13 p0 1) : Int) = (qN S6_1 (qO S6_1 p0 1) : Int) := f14_.kL (j := 1) y3_ k12_ (g.row k12_).1.2.1 (by decide) (by decide)
    have t20_ : (qN S9_13 (qO S9_13 p0 8) : Int) = (qN S6_1 (qO S6_1 p0 8) : Int) := f14_.kL (j := 8) y3_ k12_ (g.row k12_).1.2.2.2.2.2.2 (by decide) (by decide)
    have t21_ : (qN S9_13 (qO S9_13 p0 7) : Int) = (qN S6_1 (qO S6_1 p0 7) : Int) := f14_.kL (j := 7) y3_ k12_ (g.row k12_).1.2.2.2.2.2.1 (by decide) (by decide)
    have t22_ : (qN S9_13 (qO S9_13 p0 0) : Int) = (qN S6_1 (qO S6_1 p0 0) : Int) := f14_.kL (j := 0) y3_ k12_ (g.row k12_).1.1 (by decide) (by decide)
    have t23_ : (qN S9_13 (qO S9_13 p0 6) : Int) = (qN S6_1 (qO S6_1 p0 6) : Int) := f14_.kL (j := 6) y3_ k12_ (g.row k12_).1.2.2.2.2.1 (by decide) (by decide)
    have t24_ : (qN S9_13 (qO S9_13 p0 3) : Int) = (qN S6_1 (qO S6_1 p0 3) : Int) := f14_.kL (j := 3) y3_ k12_ (g.row k12_).1.2.2.1 (by decide) (by decide)
    have t25_ : (qN S9_13 (qO S9_13 p0 5) : Int) = (qN S6_1 (qO S6_1 p0 5) : Int) := f14_.kL (j := 5) y3_ k12_ (g.row k12_).1.2.2.2.1 (by decide) (by decide)
    have k26_ : qT S9_13 p0 = 47 := f14_.1.T k12_ (by decide)
    have t27_ : (qI S9_13 p0 2).toInt = ((qI S6_1 p0 2) + (1 : Int32)).toInt := by rw [eS9_13, qI_wI, if_pos ⟨rfl, rfl⟩]
    have g : ShC B S9_13 := by rw [eS9_13]; exact ShC.cnt y3_ g y5_ (Or.inl ⟨rfl, b16_⟩)
    exact ⟨g, trivial⟩
set_option maxRecDepth 100000 in
theorem sgX8_addToTable {B : Nat × Nat} {S : MS} {p0 : Nat} {x1 : Int32} (hw : wfC S) (g : ShC B S) (k_p0 : qT S p0 = 47) : wX8_addToTable S p0 x1 (fun u => ShC B u ∧ (True)) := by
  unfold wX8_addToTable
  refine ⟨?_, ?_⟩
  · exact (g.row k_p0).1.2.2.1
  refine ⟨fun c0_ => ?_, fun c0_ => ?_⟩
  · exact ⟨g, trivial⟩
  · refine ⟨?_, ?_⟩
    · exact (g.row k_p0).1.2.2.1
    refine ⟨?_, ?_⟩
    · have s1_ := (g.row k_p0).2
      have n1_ := rgI (qI S p0 4)
      omega
    intro S8_2 eS8_2 y1_ y2_
    have f3_ : cfr [223] [] S S8_2 := by rw [eS8_2]; exact cfr.aI y1_ (by decide)
    have t4_ : (qI S8_2 p0 2).toInt = (qI S p0 2).toInt := congrArg Int32.toInt (f3_.kI (j := 2) k_p0 (by decide) (by decide))
    have t5_ : (qI S8_2 p0 9).toInt = (qI S p0 9).toInt := congrArg Int32.toInt (f3_.kI (j := 9) k_p0 (by decide) (by decide))
    have t6_ : (qI S8_2 p0 4).toInt = (qI S p0 4).toInt := congrArg Int32.toInt (f3_.kI (j := 4) k_p0 (by decide) (by decide))
    have t7_ : (qN S8_2 (qO S8_2 p0 1) : Int) = (qN S (qO S p0 1) : Int) := f3_.kL (j := 1) hw k_p0 (g.row k_p0).1.2.1 (by decide) (by decide)
    have t8_ : (qN S8_2 (qO S8_2 p0 8) : Int) = (qN S (qO S p0 8) : Int) := f3_.kL (j := 8) hw k_p0 (g.row k_p0).1.2.2.2.2.2.2 (by decide) (by decide)
    have t9_ : (qN S8_2 (qO S8_2 p0 7) : Int) = (qN S (qO S p0 7) : Int) := f3_.kL (j := 7) hw k_p0 (g.row k_p0).1.2.2.2.2.2.1 (by decide) (by decide)
    have t10_ : (qN S8_2 (qO S8_2 p0 0) : Int) = (qN S (qO S p0 0) : Int) := f3_.kL (j := 0) hw k_p0 (g.row k_p0).1.1 (by decide) (by decide)
    have t11_ : (qN S8_2 (qO S8_2 p0 6) : Int) = (qN S (qO S p0 6) : Int) := f3_.kL (j := 6) hw k_p0 (g.row k_p0).1.2.2.2.2.1 (by decide) (by decide)
    have t12_ : (qN S8_2 (qO S8_2 p0 3) : Int) = (qN S (qO S p0 3) : Int) := f3_.kL (j := 3) hw k_p0 (g.row k_p0).1.2.2.1 (by decide) (by decide)
    have t13_ : (qN S8_2 (qO S8_2 p0 5) : Int) = (qN S (qO S p0 5) : Int) := f3_.kL (j := 5) hw k_p0 (g.row k_p0).1.2.2.2.1 (by decide) (by decide)
    have k14_ : qT S8_2 p0 = 47 := f3_.1.T k_p0 (by decide)
    have g : ShC B S8_2 := ShC.ws hw g f3_ (by rw [eS8_2]; rfl) (by rw [eS8_2]; rfl) (by rw [eS8_2]; rfl) rfl rfl
    intro S10_15 eS10_15 y3_ y4_
    have f16_ : cfr [] [(47, 4)] S8_2 S10_15 := by rw [eS10_15]; exact cfr.oI y3_ (by decide)
    have b18_ : 0 ≤ (((qI S8_2 p0 4) + (1 : Int32))).toInt ∧ (((qI S8_2 p0 4) + (1 : Int32))).toInt ≤ (qN S8_2 (qO S8_2 p0 3) : Int) := by
      have s17_ := (g.row k14_).2
      have n2_ := rgI (qI S8_2 p0 4)
      have n3_ := li_1k
      have n3_ := t_addD (a := (qI S8_2 p0 4)) (b := (1 : Int32))
      have n4_ := rgI ((qI S8_2 p0 4) + (1 : Int32))
      have n5_ := rgI (qI S p0 4)
      omega
    have t19_ : (qI S10_15 p0 2).toInt = (qI S8_2 p0 2).toInt := congrArg Int32.toInt (f16_.kI (j := 2) k14_ (by decide) (by decide))
    have t20_ : (qI S10_15 p0 9).toInt = (qI S8_2 p0 9).toInt := congrArg Int32.toInt (f16_.kI (j := 9) k14_ (by decide) (by decide))
    have t21_ : (qN S10_15 (qO S10_15 p0 1) : Int) = (qN S8_2 (qO S8_2 p0 1) : Int) := f16_.kL (j := 1) y2_ k14_ (g.row k14_).1.2.1 (by decide) (by decide)
    have t22_ : (qN S10_15 (qO S10_15 p0 8) : Int) = (qN S8_2 (qO S8_2 p0 8) : Int) := f16_.kL (j := 8) y2_ k14_ (g.row k14_).1.2.2.2.2.2.2 (by decide) (by decide)
    have t23_ : (qN S10_15 (qO S10_15 p0 7) : Int) = (qN S8_2 (qO S8_2 p0 7) : Int) := f16_.kL (j := 7) y2_ k14_ (g.row k14_).1.2.2.2.2.2.1 (by decide) (by decide)
    have t24_ : (qN S10_15 (qO S10_15 p0 0) : Int) = (qN S8_2 (qO S8_2 p0 0) : Int) := f16_.kL (j := 0) y2_ k14_ (g.row k14_).1.1 (by decide) (by decide)
    have t25_ : (qN S10_15 (qO S10_15 p0 6) : Int) = (qN S8_2 (qO S8_2 p0 6) : Int) := f16_.kL (j := 6) y2_ k14_ (g.row k14_).1.2.2.2.2.1 (by decide) (by decide)
    have t26_ : (qN S10_15 (qO S10_15 p0 3) : Int) = (qN S8_2 (qO S8_2 p0 3) : Int) := f16_.kL (j := 3) y2_ k14_ (g.row k14_).1.2.2.1 (by decide) (by decide)
    have t27_ : (qN S10_15 (qO S10_15 p0 5) : Int) = (qN S8_2 (qO S8_2 p0 5) : Int) := f16_.kL (j := 5) y2_ k14_ (g.row k14_).1.2.2.2.1 (by decide) (by decide)
    have k28_ : qT S10_15 p0 = 47 := f16_.1.T k14_ (by decide)
    have t29_ : (qI S10_15 p0 4).toInt = ((qI S8_2 p0 4) + (1 : Int32)).toInt := by rw [eS10_15, qI_wI, if_pos ⟨rfl, rfl⟩]
    have g : ShC B S10_15 := by rw [eS10_15]; exact ShC.cnt y2_ g y3_ (Or.inr (Or.inl ⟨rfl, b18_⟩))
    exact ⟨g, trivial⟩
set_option maxRecDepth 100000 in
theorem sgX8_addCatch {B : Nat × Nat} {S : MS} {p0 : Nat} {x1 : Int32} {x2 : Int32} {x3 : Int32} {x4 : Int32} (hw : wfC S) (g : ShC B S) (k_p0 : qT S p0 = 47) : wX8_addCatch S p0 x1 x2 x3 x4 (fun u => ShC B u ∧ (True)) := by
  unfold wX8_addCatch
  refine ⟨?_, ?_⟩
  · exact (g.row k_p0).1.2.2.2.1
  refine ⟨fun c0_ => ?_, fun c0_ => ?_⟩
  · exact ⟨g, trivial⟩
  · refine ⟨?_, ?_⟩
    · exact (g.row k_p0).1.2.2.2.1
    refine ⟨?_, ?_⟩
    · have s1_ := (g.row k_p0).2
      have n1_ := rgI (qI S p0 9)
      omega
    intro S8_2 eS8_2 y1_ y2_
    have f3_ : cfr [224] [] S S8_2 := by rw [eS8_2]; exact cfr.aI y1_ (by decide)
    have t4_ : (qI S8_2 p0 2).toInt = (qI S p0 2).toInt := congrArg Int32.toInt (f3_.kI (j := 2) k_p0 (by decide) (by decide))
    have t5_ : (qI S8_2 p0 9).toInt = (qI S p0 9).toInt := congrArg Int32.toInt (f3_.kI (j := 9) k_p0 (by decide) (by decide))
    have t6_ : (qI S8_2 p0 4).toInt = (qI S p0 4).toInt := congrArg Int32.toInt (f3_.kI (j := 4) k_p0 (by decide) (by decide))
    have t7_ : (qN S8_2 (qO S8_2 p0 1) : Int) = (qN S (qO S p0 1) : Int) := f3_.kL (j := 1) hw k_p0 (g.row k_p0).1.2.1 (by decide) (by decide)
    have t8_ : (qN S8_2 (qO S8_2 p0 8) : Int) = (qN S (qO S p0 8) : Int) := f3_.kL (j := 8) hw k_p0 (g.row k_p0).1.2.2.2.2.2.2 (by decide) (by decide)
    have t9_ : (qN S8_2 (qO S8_2 p0 7) : Int) = (qN S (qO S p0 7) : Int) := f3_.kL (j := 7) hw k_p0 (g.row k_p0).1.2.2.2.2.2.1 (by decide) (by decide)
    have t10_ : (qN S8_2 (qO S8_2 p0 0) : Int) = (qN S (qO S p0 0) : Int) := f3_.kL (j := 0) hw k_p0 (g.row k_p0).1.1 (by decide) (by decide)
    have t11_ : (qN S8_2 (qO S8_2 p0 6) : Int) = (qN S (qO S p0 6) : Int) := f3_.kL (j := 6) hw k_p0 (g.row k_p0).1.2.2.2.2.1 (by decide) (by decide)
    have t12_ : (qN S8_2 (qO S8_2 p0 3) : Int) = (qN S (qO S p0 3) : Int) := f3_.kL (j := 3) hw k_p0 (g.row k_p0).1.2.2.1 (by decide) (by decide)
    have t13_ : (qN S8_2 (qO S8_2 p0 5) : Int) = (qN S (qO S p0 5) : Int) := f3_.kL (j := 5) hw k_p0 (g.row k_p0).1.2.2.2.1 (by decide) (by decide)
    have k14_ : qT S8_2 p0 = 47 := f3_.1.T k_p0 (by decide)
    have g : ShC B S8_2 := ShC.ws hw g f3_ (by rw [eS8_2]; rfl) (by rw [eS8_2]; rfl) (by rw [eS8_2]; rfl) rfl rfl
    refine ⟨?_, ?_⟩
    · exact (g.row k14_).1.2.2.2.2.1
    refine ⟨?_, ?_⟩
    · have s15_ := (g.row k14_).2
      have n1_ := rgI (qI S8_2 p0 9)
      have n2_ := rgI (qI S p0 9)
      omega
    intro S12_16 eS12_16 y3_ y4_
    have f17_ : cfr [225] [] S8_2 S12_16 := by rw [eS12_16]; exact cfr.aI y3_ (by decide)
    have t18_ : (qI S12_16 p0 2).toInt = (qI S8_2 p0 2).toInt := congrArg Int32.toInt (f17_.kI (j := 2) k14_ (by decide) (by decide))
    have t19_ : (qI S12_16 p0 9).toInt = (qI S8_2 p0 9).toInt := congrArg Int32.toInt (f17_.kI (j := 9) k14_ (by decide) (by decide))
    have t20_ : (qI S12_16 p0 4).toInt = (qI S8_2 p0 4).toInt := congrArg Int32.toInt (f17_.kI (j := 4) k14_ (by decide) (by decide))
    have t21_ : (qN S12_16 (qO S12_16 p0 1) : Int) = (qN S8_2 (qO S8_2 p0 1) : Int) := f17_.kL (j := 1) y2_ k14_ (g.row k14_).1.2.1 (by decide) (by decide)
    have t22_ : (qN S12_16 (qO S12_16 p0 8) : Int) = (qN S8_2 (qO S8_2 p0 8) : Int) := f17_.kL (j := 8) y2_ k14_ (g.row k14_).1.2.2.2.2.2.2 (by decide) (by decide)
    have t23_ : (qN S12_16 (qO S12_16 p0 7) : Int) = (qN S8_2 (qO S8_2 p0 7) : Int) := f17_.kL (j := 7) y2_ k14_ (g.row k14_).1.2.2.2.2.2.1 (by decide) (by decide)
    have t24_ : (qN S12_16 (qO S12_16 p0 0) : Int) = (qN S8_2 (qO S8_2 p0 0) : Int) := f17_.kL (j := 0) y2_ k14_ (g.row k14_).1.1 (by decide) (by decide)
    have t25_ : (qN S12_16 (qO S12_16 p0 6) : Int) = (qN S8_2 (qO S8_2 p0 6) : Int) := f17_.kL (j := 6) y2_ k14_ (g.row k14_).1.2.2.2.2.1 (by decide) (by decide)
    have t26_ : (qN S12_16 (qO S12_16 p0 3) : Int) = (qN S8_2 (qO S8_2 p0 3) : Int) := f17_.kL (j := 3) y2_ k14_ (g.row k14_).1.2.2.1 (by decide) (by decide)
    have t27_ : (qN S12_16 (qO S12_16 p0 5) : Int) = (qN S8_2 (qO S8_2 p0 5) : Int) := f17_.kL (j := 5) y2_ k14_ (g.row k14_).1.2.2.2.1 (by decide) (by decide)
    have k28_ : qT S12_16 p0 = 47 := f17_.1.T k14_ (by decide)
    have g : ShC B S12_16 := ShC.ws y2_ g f17_ (by rw [eS12_16]; rfl) (by rw [eS12_16]; rfl) (by rw [eS12_16]; rfl) rfl rfl
    refine ⟨?_, ?_⟩
    · exact (g.row k28_).1.2.2.2.2.2.1
    refine ⟨?_, ?_⟩
    · have s29_ := (g.row k28_).2
      have n1_ := rgI (qI S12_16 p0 9)
      have n2_ := rgI (qI S p0 9)
      omega
    intro S16_30 eS16_30 y5_ y6_
    have f31_ : cfr [226] [] S12_16 S16_30 := by rw [eS16_30]; exact cfr.aI y5_ (by decide)
    have t32_ : (qI S16_30 p0 2).toInt = (qI S12_16 p0 2).toInt := congrArg Int32.toInt (f31_.kI (j := 2) k28_ (by decide) (by decide))
    have t33_ : (qI S16_30 p0 9).toInt = (qI S12_16 p0 9).toInt := congrArg Int32.toInt (f31_.kI (j := 9) k28_ (by decide) (by decide))
    have t34_ : (qI S16_30 p0 4).toInt = (qI S12_16 p0 4).toInt := congrArg Int32.toInt (f31_.kI (j := 4) k28_ (by decide) (by decide))
    have t35_ : (qN S16_30 (qO S16_30 p0 1) : Int) = (qN S12_16 (qO S12_16 p0 1) : Int) := f31_.kL (j := 1) y4_ k28_ (g.row k28_).1.2.1 (by decide) (by decide)
    have t36_ : (qN S16_30 (qO S16_30 p0 8) : Int) = (qN S12_16 (qO S12_16 p0 8) : Int) := f31_.kL (j := 8) y4_ k28_ (g.row k28_).1.2.2.2.2.2.2 (by decide) (by decide)
    have t37_ : (qN S16_30 (qO S16_30 p0 7) : Int) = (qN S12_16 (qO S12_16 p0 7) : Int) := f31_.kL (j := 7) y4_ k28_ (g.row k28_).1.2.2.2.2.2.1 (by decide) (by decide)
    have t38_ : (qN S16_30 (qO S16_30 p0 0) : Int) = (qN S12_16 (qO S12_16 p0 0) : Int) := f31_.kL (j := 0) y4_ k28_ (g.row k28_).1.1 (by decide) (by decide)
    have t39_ : (qN S16_30 (qO S16_30 p0 6) : Int) = (qN S12_16 (qO S12_16 p0 6) : Int) := f31_.kL (j := 6) y4_ k28_ (g.row k28_).1.2.2.2.2.1 (by decide) (by decide)
    have t40_ : (qN S16_30 (qO S16_30 p0 3) : Int) = (qN S12_16 (qO S12_16 p0 3) : Int) := f31_.kL (j := 3) y4_ k28_ (g.row k28_).1.2.2.1 (by decide) (by decide)
    have t41_ : (qN S16_30 (qO S16_30 p0 5) : Int) = (qN S12_16 (qO S12_16 p0 5) : Int) := f31_.kL (j := 5) y4_ k28_ (g.row k28_).1.2.2.2.1 (by decide) (by decide)
    have k42_ : qT S16_30 p0 = 47 := f31_.1.T k28_ (by decide)
    have g : ShC B S16_30 := ShC.ws y4_ g f31_ (by rw [eS16_30]; rfl) (by rw [eS16_30]; rfl) (by rw [eS16_30]; rfl) rfl rfl
    refine ⟨?_, ?_⟩
    · exact (g.row k42_).1.2.2.2.2.2.2
    refine ⟨?_, ?_⟩
    · have s43_ := (g.row k42_).2
      have n1_ := rgI (qI S16_30 p0 9)
      have n2_ := rgI (qI S p0 9)
      omega
    intro S20_44 eS20_44 y7_ y8_
    have f45_ : cfr [227] [] S16_30 S20_44 := by rw [eS20_44]; exact cfr.aI y7_ (by decide)
    have t46_ : (qI S20_44 p0 2).toInt = (qI S16_30 p0 2).toInt := congrArg Int32.toInt (f45_.kI (j := 2) k42_ (by decide) (by decide))
    have t47_ : (qI S20_44 p0 9).toInt = (qI S16_30 p0 9).toInt := congrArg Int32.toInt (f45_.kI (j := 9) k42_ (by decide) (by decide))
    have t48_ : (qI S20_44 p0 4).toInt = (qI S16_30 p0 4).toInt := congrArg Int32.toInt (f45_.kI (j := 4) k42_ (by decide) (by decide))
    have t49_ : (qN S20_44 (qO S20_44 p0 1) : Int) = (qN S16_30 (qO S16_30 p0 1) : Int) := f45_.kL (j := 1) y6_ k42_ (g.row k42_).1.2.1 (by decide) (by decide)
    have t50_ : (qN S20_44 (qO S20_44 p0 8) : Int) = (qN S16_30 (qO S16_30 p0 8) : Int) := f45_.kL (j := 8) y6_ k42_ (g.row k42_).1.2.2.2.2.2.2 (by decide) (by decide)
    have t51_ : (qN S20_44 (qO S20_44 p0 7) : Int) = (qN S16_30 (qO S16_30 p0 7) : Int) := f45_.kL (j := 7) y6_ k42_ (g.row k42_).1.2.2.2.2.2.1 (by decide) (by decide)
    have t52_ : (qN S20_44 (qO S20_44 p0 0) : Int) = (qN S16_30 (qO S16_30 p0 0) : Int) := f45_.kL (j := 0) y6_ k42_ (g.row k42_).1.1 (by decide) (by decide)
    have t53_ : (qN S20_44 (qO S20_44 p0 6) : Int) = (qN S16_30 (qO S16_30 p0 6) : Int) := f45_.kL (j := 6) y6_ k42_ (g.row k42_).1.2.2.2.2.1 (by decide) (by decide)
    have t54_ : (qN S20_44 (qO S20_44 p0 3) : Int) = (qN S16_30 (qO S16_30 p0 3) : Int) := f45_.kL (j := 3) y6_ k42_ (g.row k42_).1.2.2.1 (by decide) (by decide)
    have t55_ : (qN S20_44 (qO S20_44 p0 5) : Int) = (qN S16_30 (qO S16_30 p0 5) : Int) := f45_.kL (j := 5) y6_ k42_ (g.row k42_).1.2.2.2.1 (by decide) (by decide)
    have k56_ : qT S20_44 p0 = 47 := f45_.1.T k42_ (by decide)
    have g : ShC B S20_44 := ShC.ws y6_ g f45_ (by rw [eS20_44]; rfl) (by rw [eS20_44]; rfl) (by rw [eS20_44]; rfl) rfl rfl
    intro S22_57 eS22_57 y9_ y10_
    have f58_ : cfr [] [(47, 9)] S20_44 S22_57 := by rw [eS22_57]; exact cfr.oI y9_ (by decide)
    have b60_ : 0 ≤ (((qI S20_44 p0 9) + (1 : Int32))).toInt ∧ (((qI S20_44 p0 9) + (1 : Int32))).toInt ≤ (qN S20_44 (qO S20_44 p0 5) : Int) := by
      have s59_ := (g.row k56_).2
      have n2_ := rgI (qI S20_44 p0 9)
      have n3_ := li_1k
      have n3_ := t_addD (a := (qI S20_44 p0 9)) (b := (1 : Int32))
      have n4_ := rgI ((qI S20_44 p0 9) + (1 : Int32))
      have n5_ := rgI (qI S p0 9)
      omega
    have t61_ : (qI S22_57 p0 2).toInt = (qI S20_44 p0 2).toInt := congrArg Int32.toInt (f58_.kI (j := 2) k56_ (by decide) (by decide))
    have t62_ : (qI S22_57 p0 4).toInt = (qI S20_44 p0 4).toInt := congrArg Int32.toInt (f58_.kI (j := 4) k56_ (by decide) (by decide))
    have t63_ : (qN S22_57 (qO S22_57 p0 1) : Int) = (qN S20_44 (qO S20_44 p0 1) : Int) := f58_.kL (j := 1) y8_ k56_ (g.row k56_).1.2.1 (by decide) (by decide)
    have t64_ : (qN S22_57 (qO S22_57 p0 8) : Int) = (qN S20_44 (qO S20_44 p0 8) : Int) := f58_.kL (j := 8) y8_ k56_ (g.row k56_).1.2.2.2.2.2.2 (by decide) (by decide)
    have t65_ : (qN S22_57 (qO S22_57 p0 7) : Int) = (qN S20_44 (qO S20_44 p0 7) : Int) := f58_.kL (j := 7) y8_ k56_ (g.row k56_).1.2.2.2.2.2.1 (by decide) (by decide)
    have t66_ : (qN S22_57 (qO S22_57 p0 0) : Int) = (qN S20_44 (qO S20_44 p0 0) : Int) := f58_.kL (j := 0) y8_ k56_ (g.row k56_).1.1 (by decide) (by decide)
    have t67_ : (qN S22_57 (qO S22_57 p0 6) : Int) = (qN S20_44 (qO S20_44 p0 6) : Int) := f58_.kL (j := 6) y8_ k56_ (g.row k56_).1.2.2.2.2.1 (by decide) (by decide)
    have t68_ : (qN S22_57 (qO S22_57 p0 3) : Int) = (qN S20_44 (qO S20_44 p0 3) : Int) := f58_.kL (j := 3) y8_ k56_ (g.row k56_).1.2.2.1 (by decide) (by decide)
    have t69_ : (qN S22_57 (qO S22_57 p0 5) : Int) = (qN S20_44 (qO S20_44 p0 5) : Int) := f58_.kL (j := 5) y8_ k56_ (g.row k56_).1.2.2.2.1 (by decide) (by decide)
    have k70_ : qT S22_57 p0 = 47 := f58_.1.T k56_ (by decide)
    have t71_ : (qI S22_57 p0 9).toInt = ((qI S20_44 p0 9) + (1 : Int32)).toInt := by rw [eS22_57, qI_wI, if_pos ⟨rfl, rfl⟩]
    have g : ShC B S22_57 := by rw [eS22_57]; exact ShC.cnt y8_ g y9_ (Or.inr (Or.inr ⟨rfl, b60_⟩))
    exact ⟨g, trivial⟩
set_option maxRecDepth 100000 in
theorem sgX8_setTarget {B : Nat × Nat} {S : MS} {p0 : Nat} {x1 : Int32} {x2 : Int32} {x3 : Int32} (hw : wfC S) (g : ShC B S) (k_p0 : qT S p0 = 47) : wX8_setTarget S p0 x1 x2 x3 (fun u => ShC B u ∧ (True)) := by
  unfold wX8_setTarget
  refine ⟨?_, ?_⟩
  · exact (dd_X8_opAt hw g k_p0)
  intro a4_0 ea4_0 
  have ga4_0 := congrArg Int32.toInt ea4_0
  refine ⟨?_, ?_⟩
  · exact dd_X6_isJump
  intro a8_1 ea8_1 
  have ga8_1 := congrArg Int32.toInt ea8_1
  refine ⟨fun c2_ => ?_, fun c2_ => ?_⟩
  · refine ⟨?_, ?_⟩
    · exact (dd_X8_argAt hw g k_p0)
    intro a13_3 ea13_3 
    intro a16_4 ea16_4 
    have ga16_4 := congrArg Int32.toInt ea16_4
    refine ⟨fun c5_ => ?_, fun c5_ => ?_⟩
    · exact ⟨g, trivial⟩
    · refine ⟨fun c6_ => ?_, fun c6_ => ?_⟩
      · exact ⟨g, trivial⟩
      · refine ⟨?_, ?_⟩
        · exact (g.row k_p0).1.2.2.1
        refine ⟨?_, ?_⟩
        · have s7_ := (g.row k_p0).2
          have n1_ := rgI a16_4
          have n2_ := rgI a4_0
          have n3_ := rgI (fX8_opAt S p0 x1)
          have n4_ := rgI a8_1
          have n5_ := rgI (fX6_isJump S a4_0)
          have n8_ := rgI (a13_3.toInt32)
          have n9_ := li_2k
          have n9_ := t_addD (a := (a13_3.toInt32)) (b := (2 : Int32))
          have n10_ := rgI ((a13_3.toInt32) + (2 : Int32))
          have n11_ := rgI x2
          have n11_ := t_addD (a := ((a13_3.toInt32) + (2 : Int32))) (b := x2)
          have n12_ := rgI (((a13_3.toInt32) + (2 : Int32)) + x2)
          have n13_ := rgI (qI S p0 4)
          omega
        intro S22_8 eS22_8 y1_ y2_
        have f9_ : cfr [223] [] S S22_8 := by rw [eS22_8]; exact cfr.aI y1_ (by decide)
        have t10_ : (qI S22_8 p0 2).toInt = (qI S p0 2).toInt := congrArg Int32.toInt (f9_.kI (j := 2) k_p0 (by decide) (by decide))
        have t11_ : (qI S22_8 p0 9).toInt = (qI S p0 9).toInt := congrArg Int32.toInt (f9_.kI (j := 9) k_p0 (by decide) (by decide))
        have t12_ : (qI S22_8 p0 4).toInt = (qI S p0 4).toInt := congrArg Int32.toInt (f9_.kI (j := 4) k_p0 (by decide) (by decide))
        have t13_ : (qN S22_8 (qO S22_8 p0 1) : Int) = (qN S (qO S p0 1) : Int) := f9_.kL (j := 1) hw k_p0 (g.row k_p0).1.2.1 (by decide) (by decide)
        have t14_ : (qN S22_8 (qO S22_8 p0 8) : Int) = (qN S (qO S p0 8) : Int) := f9_.kL (j := 8) hw k_p0 (g.row k_p0).1.2.2.2.2.2.2 (by decide) (by decide)
        have t15_ : (qN S22_8 (qO S22_8 p0 7) : Int) = (qN S (qO S p0 7) : Int) := f9_.kL (j := 7) hw k_p0 (g.row k_p0).1.2.2.2.2.2.1 (by decide) (by decide)
        have t16_ : (qN S22_8 (qO S22_8 p0 0) : Int) = (qN S (qO S p0 0) : Int) := f9_.kL (j := 0) hw k_p0 (g.row k_p0).1.1 (by decide) (by decide)
        have t17_ : (qN S22_8 (qO S22_8 p0 6) : Int) = (qN S (qO S p0 6) : Int) := f9_.kL (j := 6) hw k_p0 (g.row k_p0).1.2.2.2.2.1 (by decide) (by decide)
        have t18_ : (qN S22_8 (qO S22_8 p0 3) : Int) = (qN S (qO S p0 3) : Int) := f9_.kL (j := 3) hw k_p0 (g.row k_p0).1.2.2.1 (by decide) (by decide)
        have t19_ : (qN S22_8 (qO S22_8 p0 5) : Int) = (qN S (qO S p0 5) : Int) := f9_.kL (j := 5) hw k_p0 (g.row k_p0).1.2.2.2.1 (by decide) (by decide)
        have k20_ : qT S22_8 p0 = 47 := f9_.1.T k_p0 (by decide)
        have g : ShC B S22_8 := ShC.ws hw g f9_ (by rw [eS22_8]; rfl) (by rw [eS22_8]; rfl) (by rw [eS22_8]; rfl) rfl rfl
        exact ⟨g, trivial⟩
  · refine ⟨?_, ?_⟩
    · exact (dd_X8_opAt hw g k_p0)
    intro a26_21 ea26_21 
    have ga26_21 := congrArg Int32.toInt ea26_21
    intro y3_
    refine ⟨_, frX8_set hw (sgX8_set hw g y3_), ?_⟩
    intro S28_22 q4_ y5_ y6_
    have t23_ : (qI S28_22 p0 2).toInt = (qI S p0 2).toInt := congrArg Int32.toInt (q4_.2.kI (j := 2) y3_ (by decide) (by decide))
    have t24_ : (qI S28_22 p0 9).toInt = (qI S p0 9).toInt := congrArg Int32.toInt (q4_.2.kI (j := 9) y3_ (by decide) (by decide))
    have t25_ : (qI S28_22 p0 4).toInt = (qI S p0 4).toInt := congrArg Int32.toInt (q4_.2.kI (j := 4) y3_ (by decide) (by decide))
    have t26_ : (qN S28_22 (qO S28_22 p0 1) : Int) = (qN S (qO S p0 1) : Int) := q4_.2.kL (j := 1) hw y3_ (g.row y3_).1.2.1 (by decide) (by decide)
    have t27_ : (qN S28_22 (qO S28_22 p0 8) : Int) = (qN S (qO S p0 8) : Int) := q4_.2.kL (j := 8) hw y3_ (g.row y3_).1.2.2.2.2.2.2 (by decide) (by decide)
    have t28_ : (qN S28_22 (qO S28_22 p0 7) : Int) = (qN S (qO S p0 7) : Int) := q4_.2.kL (j := 7) hw y3_ (g.row y3_).1.2.2.2.2.2.1 (by decide) (by decide)
    have t29_ : (qN S28_22 (qO S28_22 p0 0) : Int) = (qN S (qO S p0 0) : Int) := q4_.2.kL (j := 0) hw y3_ (g.row y3_).1.1 (by decide) (by decide)
    have t30_ : (qN S28_22 (qO S28_22 p0 6) : Int) = (qN S (qO S p0 6) : Int) := q4_.2.kL (j := 6) hw y3_ (g.row y3_).1.2.2.2.2.1 (by decide) (by decide)
    have t31_ : (qN S28_22 (qO S28_22 p0 3) : Int) = (qN S (qO S p0 3) : Int) := q4_.2.kL (j := 3) hw y3_ (g.row y3_).1.2.2.1 (by decide) (by decide)
    have t32_ : (qN S28_22 (qO S28_22 p0 5) : Int) = (qN S (qO S p0 5) : Int) := q4_.2.kL (j := 5) hw y3_ (g.row y3_).1.2.2.2.1 (by decide) (by decide)
    have k33_ : qT S28_22 p0 = 47 := q4_.2.1.T y3_ (by decide)
    have g : ShC B S28_22 := q4_.1.1
    exact ⟨g, trivial⟩
set_option maxRecDepth 100000 in
theorem sg_X8_isCaught_L2 {B : Nat × Nat} : ∀ (n : Nat) {U2 : MS} {v2_0 : Nat} {v2_1 : Int32} {v2_2 : Int32}, ShC B U2 → 0 ≤ v2_2.toInt → 2147483648 - v2_2.toInt < n → w_X8_isCaught_L2 (fun _ u => ShC B u ∧ (True)) n U2 v2_0 v2_1 v2_2 := by
  intro n
  induction n with
  | zero => intro U2 v2_0 v2_1 v2_2 g j0_ hm_; exfalso; have := rgI v2_1; have := rgI v2_2; omega
  | succ n ih2 =>
    intro U2 v2_0 v2_1 v2_2 g j0_ hm_
    unfold w_X8_isCaught_L2
    intro y1_ y2_
    refine ⟨fun c0_ => ?_, fun c0_ => ?_⟩
    · exact ⟨g, trivial⟩
    · refine ⟨?_, ?_⟩
      · exact (dd_X8_catchHas y1_ g y2_)
      refine ⟨fun c1_ => ?_, fun c1_ => ?_⟩
      · intro a6_2 ea6_2 
        have ga6_2 := congrArg Int32.toInt ea6_2
        refine ih2 g ?_ ?_
        · have s3_ := (g.row y2_).2
          have n1_ := rgI a6_2
          have n2_ := rgI v2_2
          have n3_ := rgI (qI U2 v2_0 9)
          have n4_ := rgI (fX8_catchHas U2 v2_0 v2_2 v2_1)
          have n6_ := lo_1k
          have n6_ := t_addD (a := v2_2) (b := Int32.ofInt 1)
          have n7_ := rgI (v2_2 + Int32.ofInt 1)
          omega
        · have s4_ := (g.row y2_).2
          have n1_ := rgI a6_2
          have n2_ := rgI v2_2
          have n3_ := rgI (qI U2 v2_0 9)
          have n4_ := rgI (fX8_catchHas U2 v2_0 v2_2 v2_1)
          have n6_ := lo_1k
          have n6_ := t_addD (a := v2_2) (b := Int32.ofInt 1)
          have n7_ := rgI (v2_2 + Int32.ofInt 1)
          omega
      · exact ⟨g, trivial⟩
set_option maxRecDepth 100000 in
theorem sgX8_isCaught {B : Nat × Nat} {S : MS} {p0 : Nat} {x1 : Int32} (hw : wfC S) (g : ShC B S) (k_p0 : qT S p0 = 47) : wX8_isCaught S p0 x1 (fun _ u => ShC B u ∧ (True)) := by
  unfold wX8_isCaught
  refine ⟨(2147483648 - (0 : Int32).toInt).toNat + 1, ?_⟩
  refine sg_X8_isCaught_L2  _ g ?_ ?_
  · have s5_ := (g.row k_p0).2
    have n1_ := li_0k
    omega
  · have s6_ := (g.row k_p0).2
    have n1_ := li_0k
    omega
set_option maxRecDepth 100000 in
theorem sg_X8_copyFrom_L83 {B : Nat × Nat} : ∀ (n : Nat) {U83 : MS} {v83_0 : Nat} {v83_1 : Nat} {v83_2 : Int32}, ShC B U83 → 0 ≤ v83_2.toInt → 2147483648 - v83_2.toInt < n → w_X8_copyFrom_L83 (fun u => ShC B u ∧ (True)) n U83 v83_0 v83_1 v83_2 := by
  intro n
  induction n with
  | zero => intro U83 v83_0 v83_1 v83_2 g j0_ hm_; exfalso; have := rgI v83_2; omega
  | succ n ih83 =>
    intro U83 v83_0 v83_1 v83_2 g j0_ hm_
    unfold w_X8_copyFrom_L83
    intro y1_ y2_ y3_
    refine ⟨fun c0_ => ?_, fun c0_ => ?_⟩
    · exact ⟨g, trivial⟩
    · refine ⟨?_, ?_⟩
      · exact (g.row y3_).1.2.2.2.1
      refine ⟨?_, ?_⟩
      · have s1_ := (g.row y2_).2
        have s2_ := (g.row y3_).2
        have n1_ := rgI v83_2
        have n2_ := rgI (qI U83 v83_1 9)
        omega
      refine ⟨?_, ?_⟩
      · exact (g.row y3_).1.2.2.2.2.1
      refine ⟨?_, ?_⟩
      · have s3_ := (g.row y2_).2
        have s4_ := (g.row y3_).2
        have n1_ := rgI v83_2
        have n2_ := rgI (qI U83 v83_1 9)
        omega
      refine ⟨?_, ?_⟩
      · exact (g.row y3_).1.2.2.2.2.2.1
      refine ⟨?_, ?_⟩
      · have s5_ := (g.row y2_).2
        have s6_ := (g.row y3_).2
        have n1_ := rgI v83_2
        have n2_ := rgI (qI U83 v83_1 9)
        omega
      refine ⟨?_, ?_⟩
      · exact (g.row y3_).1.2.2.2.2.2.2
      refine ⟨?_, ?_⟩
      · have s7_ := (g.row y2_).2
        have s8_ := (g.row y3_).2
        have n1_ := rgI v83_2
        have n2_ := rgI (qI U83 v83_1 9)
        omega
      intro y4_
      refine ⟨_, frX8_addCatch y1_ (sgX8_addCatch y1_ g y4_), ?_⟩
      intro S25_9 q5_ y6_ y7_
      have t10_ : (qI S25_9 v83_0 2).toInt = (qI U83 v83_0 2).toInt := congrArg Int32.toInt (q5_.2.kI (j := 2) y4_ (by decide) (by decide))
      have t11_ : (qI S25_9 v83_0 4).toInt = (qI U83 v83_0 4).toInt := congrArg Int32.toInt (q5_.2.kI (j := 4) y4_ (by decide) (by decide))
      have t12_ : (qN S25_9 (qO S25_9 v83_0 1) : Int) = (qN U83 (qO U83 v83_0 1) : Int) := q5_.2.kL (j := 1) y1_ y4_ (g.row y4_).1.2.1 (by decide) (by decide)
      have t13_ : (qN S25_9 (qO S25_9 v83_0 8) : Int) = (qN U83 (qO U83 v83_0 8) : Int) := q5_.2.kL (j := 8) y1_ y4_ (g.row y4_).1.2.2.2.2.2.2 (by decide) (by decide)
      have t14_ : (qN S25_9 (qO S25_9 v83_0 7) : Int) = (qN U83 (qO U83 v83_0 7) : Int) := q5_.2.kL (j := 7) y1_ y4_ (g.row y4_).1.2.2.2.2.2.1 (by decide) (by decide)
      have t15_ : (qN S25_9 (qO S25_9 v83_0 0) : Int) = (qN U83 (qO U83 v83_0 0) : Int) := q5_.2.kL (j := 0) y1_ y4_ (g.row y4_).1.1 (by decide) (by decide)
      have t16_ : (qN S25_9 (qO S25_9 v83_0 6) : Int) = (qN U83 (qO U83 v83_0 6) : Int) := q5_.2.kL (j := 6) y1_ y4_ (g.row y4_).1.2.2.2.2.1 (by decide) (by decide)
      have t17_ : (qN S25_9 (qO S25_9 v83_0 3) : Int) = (qN U83 (qO U83 v83_0 3) : Int) := q5_.2.kL (j := 3) y1_ y4_ (g.row y4_).1.2.2.1 (by decide) (by decide)
      have t18_ : (qN S25_9 (qO S25_9 v83_0 5) : Int) = (qN U83 (qO U83 v83_0 5) : Int) := q5_.2.kL (j := 5) y1_ y4_ (g.row y4_).1.2.2.2.1 (by decide) (by decide)
      have t19_ : (qI S25_9 v83_1 2).toInt = (qI U83 v83_1 2).toInt := congrArg Int32.toInt (q5_.2.kI (j := 2) y3_ (by decide) (by decide))
      have t20_ : (qI S25_9 v83_1 4).toInt = (qI U83 v83_1 4).toInt := congrArg Int32.toInt (q5_.2.kI (j := 4) y3_ (by decide) (by decide))
      have t21_ : (qN S25_9 (qO S25_9 v83_1 1) : Int) = (qN U83 (qO U83 v83_1 1) : Int) := q5_.2.kL (j := 1) y1_ y3_ (g.row y3_).1.2.1 (by decide) (by decide)
      have t22_ : (qN S25_9 (qO S25_9 v83_1 8) : Int) = (qN U83 (qO U83 v83_1 8) : Int) := q5_.2.kL (j := 8) y1_ y3_ (g.row y3_).1.2.2.2.2.2.2 (by decide) (by decide)
      have t23_ : (qN S25_9 (qO S25_9 v83_1 7) : Int) = (qN U83 (qO U83 v83_1 7) : Int) := q5_.2.kL (j := 7) y1_ y3_ (g.row y3_).1.2.2.2.2.2.1 (by decide) (by decide)
      have t24_ : (qN S25_9 (qO S25_9 v83_1 0) : Int) = (qN U83 (qO U83 v83_1 0) : Int) := q5_.2.kL (j := 0) y1_ y3_ (g.row y3_).1.1 (by decide) (by decide)
      have t25_ : (qN S25_9 (qO S25_9 v83_1 6) : Int) = (qN U83 (qO U83 v83_1 6) : Int) := q5_.2.kL (j := 6) y1_ y3_ (g.row y3_).1.2.2.2.2.1 (by decide) (by decide)
      have t26_ : (qN S25_9 (qO S25_9 v83_1 3) : Int) = (qN U83 (qO U83 v83_1 3) : Int) := q5_.2.kL (j := 3) y1_ y3_ (g.row y3_).1.2.2.1 (by decide) (by decide)
      have t27_ : (qN S25_9 (qO S25_9 v83_1 5) : Int) = (qN U83 (qO U83 v83_1 5) : Int) := q5_.2.kL (j := 5) y1_ y3_ (g.row y3_).1.2.2.2.1 (by decide) (by decide)
      have k28_ : qT S25_9 v83_0 = 47 := q5_.2.1.T y4_ (by decide)
      have k29_ : qT S25_9 v83_1 = 47 := q5_.2.1.T y3_ (by decide)
      have g : ShC B S25_9 := q5_.1.1
      intro a27_30 ea27_30 
      have ga27_30 := congrArg Int32.toInt ea27_30
      refine ih83 g ?_ ?_
      · have s31_ := (g.row k28_).2
        have s32_ := (g.row k29_).2
        have n1_ := rgI a27_30
        have n2_ := rgI v83_2
        have n3_ := rgI (qI U83 v83_1 9)
        have n5_ := lo_1k
        have n5_ := t_addD (a := v83_2) (b := Int32.ofInt 1)
        have n6_ := rgI (v83_2 + Int32.ofInt 1)
        omega
      · have s33_ := (g.row k28_).2
        have s34_ := (g.row k29_).2
        have n1_ := rgI a27_30
        have n2_ := rgI v83_2
        have n3_ := rgI (qI U83 v83_1 9)
        have n5_ := lo_1k
        have n5_ := t_addD (a := v83_2) (b := Int32.ofInt 1)
        have n6_ := rgI (v83_2 + Int32.ofInt 1)
        omega
set_option maxRecDepth 100000 in
theorem sg_X8_copyFrom_L52 {B : Nat × Nat} : ∀ (n : Nat) {U52 : MS} {v52_0 : Nat} {v52_1 : Nat} {v52_2 : Int32}, ShC B U52 → 0 ≤ v52_2.toInt → 2147483648 - v52_2.toInt < n → w_X8_copyFrom_L52 (fun u => ShC B u ∧ (True)) n U52 v52_0 v52_1 v52_2 := by
  intro n
  induction n with
  | zero => intro U52 v52_0 v52_1 v52_2 g j0_ hm_; exfalso; have := rgI v52_2; omega
  | succ n ih52 =>
    intro U52 v52_0 v52_1 v52_2 g j0_ hm_
    unfold w_X8_copyFrom_L52
    intro y8_ y9_ y10_
    refine ⟨fun c35_ => ?_, fun c35_ => ?_⟩
    · intro S6_36 eS6_36 y11_ y12_
      have f37_ : cfr [] [(47, 9)] U52 S6_36 := by rw [eS6_36]; exact cfr.oI y11_ (by decide)
      have b40_ : 0 ≤ ((0 : Int32)).toInt ∧ ((0 : Int32)).toInt ≤ (qN U52 (qO U52 v52_0 5) : Int) := by
        have s38_ := (g.row y9_).2
        have s39_ := (g.row y10_).2
        have n1_ := li_0k
        have n2_ := rgI v52_2
        have n3_ := rgI (qI U52 v52_1 4)
        omega
      have t41_ : (qI S6_36 v52_0 2).toInt = (qI U52 v52_0 2).toInt := congrArg Int32.toInt (f37_.kI (j := 2) y9_ (by decide) (by decide))
      have t42_ : (qI S6_36 v52_0 4).toInt = (qI U52 v52_0 4).toInt := congrArg Int32.toInt (f37_.kI (j := 4) y9_ (by decide) (by decide))
      have t43_ : (qN S6_36 (qO S6_36 v52_0 1) : Int) = (qN U52 (qO U52 v52_0 1) : Int) := f37_.kL (j := 1) y8_ y9_ (g.row y9_).1.2.1 (by decide) (by decide)
      have t44_ : (qN S6_36 (qO S6_36 v52_0 8) : Int) = (qN U52 (qO U52 v52_0 8) : Int) := f37_.kL (j := 8) y8_ y9_ (g.row y9_).1.2.2.2.2.2.2 (by decide) (by decide)
      have t45_ : (qN S6_36 (qO S6_36 v52_0 7) : Int) = (qN U52 (qO U52 v52_0 7) : Int) := f37_.kL (j := 7) y8_ y9_ (g.row y9_).1.2.2.2.2.2.1 (by decide) (by decide)
      have t46_ : (qN S6_36 (qO S6_36 v52_0 0) : Int) = (qN U52 (qO U52 v52_0 0) : Int) := f37_.kL (j := 0) y8_ y9_ (g.row y9_).1.1 (by decide) (by decide)
      have t47_ : (qN S6_36 (qO S6_36 v52_0 6) : Int) = (qN U52 (qO U52 v52_0 6) : Int) := f37_.kL (j := 6) y8_ y9_ (g.row y9_).1.2.2.2.2.1 (by decide) (by decide)
      have t48_ : (qN S6_36 (qO S6_36 v52_0 3) : Int) = (qN U52 (qO U52 v52_0 3) : Int) := f37_.kL (j := 3) y8_ y9_ (g.row y9_).1.2.2.1 (by decide) (by decide)
      have t49_ : (qN S6_36 (qO S6_36 v52_0 5) : Int) = (qN U52 (qO U52 v52_0 5) : Int) := f37_.kL (j := 5) y8_ y9_ (g.row y9_).1.2.2.2.1 (by decide) (by decide)
      have t50_ : (qI S6_36 v52_1 2).toInt = (qI U52 v52_1 2).toInt := congrArg Int32.toInt (f37_.kI (j := 2) y10_ (by decide) (by decide))
      have t51_ : (qI S6_36 v52_1 4).toInt = (qI U52 v52_1 4).toInt := congrArg Int32.toInt (f37_.kI (j := 4) y10_ (by decide) (by decide))
      have t52_ : (qN S6_36 (qO S6_36 v52_1 1) : Int) = (qN U52 (qO U52 v52_1 1) : Int) := f37_.kL (j := 1) y8_ y10_ (g.row y10_).1.2.1 (by decide) (by decide)
      have t53_ : (qN S6_36 (qO S6_36 v52_1 8) : Int) = (qN U52 (qO U52 v52_1 8) : Int) := f37_.kL (j := 8) y8_ y10_ (g.row y10_).1.2.2.2.2.2.2 (by decide) (by decide)
      have t54_ : (qN S6_36 (qO S6_36 v52_1 7) : Int) = (qN U52 (qO U52 v52_1 7) : Int) := f37_.kL (j := 7) y8_ y10_ (g.row y10_).1.2.2.2.2.2.1 (by decide) (by decide)
      have t55_ : (qN S6_36 (qO S6_36 v52_1 0) : Int) = (qN U52 (qO U52 v52_1 0) : Int) := f37_.kL (j := 0) y8_ y10_ (g.row y10_).1.1 (by decide) (by decide)
      have t56_ : (qN S6_36 (qO S6_36 v52_1 6) : Int) = (qN U52 (qO U52 v52_1 6) : Int) := f37_.kL (j := 6) y8_ y10_ (g.row y10_).1.2.2.2.2.1 (by decide) (by decide)
      have t57_ : (qN S6_36 (qO S6_36 v52_1 3) : Int) = (qN U52 (qO U52 v52_1 3) : Int) := f37_.kL (j := 3) y8_ y10_ (g.row y10_).1.2.2.1 (by decide) (by decide)
      have t58_ : (qN S6_36 (qO S6_36 v52_1 5) : Int) = (qN U52 (qO U52 v52_1 5) : Int) := f37_.kL (j := 5) y8_ y10_ (g.row y10_).1.2.2.2.1 (by decide) (by decide)
      have k59_ : qT S6_36 v52_0 = 47 := f37_.1.T y9_ (by decide)
      have k60_ : qT S6_36 v52_1 = 47 := f37_.1.T y10_ (by decide)
      have t61_ : (qI S6_36 v52_0 9).toInt = (0 : Int32).toInt := by rw [eS6_36, qI_wI, if_pos ⟨rfl, rfl⟩]
      have g : ShC B S6_36 := by rw [eS6_36]; exact ShC.cnt y8_ g y11_ (Or.inr (Or.inr ⟨rfl, b40_⟩))
      refine ⟨(2147483648 - (0 : Int32).toInt).toNat + 1, ?_⟩
      refine sg_X8_copyFrom_L83  _ g ?_ ?_
      · have s62_ := (g.row k59_).2
        have s63_ := (g.row k60_).2
        have n1_ := li_0k
        have n2_ := rgI v52_2
        have n3_ := rgI (qI U52 v52_1 4)
        have n4_ := rgI (qI S6_36 v52_0 9)
        omega
      · have s64_ := (g.row k59_).2
        have s65_ := (g.row k60_).2
        have n1_ := li_0k
        have n2_ := rgI v52_2
        have n3_ := rgI (qI U52 v52_1 4)
        have n4_ := rgI (qI S6_36 v52_0 9)
        omega
    · refine ⟨?_, ?_⟩
      · exact (g.row y10_).1.2.2.1
      refine ⟨?_, ?_⟩
      · have s66_ := (g.row y9_).2
        have s67_ := (g.row y10_).2
        have n1_ := rgI v52_2
        have n2_ := rgI (qI U52 v52_1 4)
        omega
      intro y13_
      refine ⟨_, frX8_addToTable y8_ (sgX8_addToTable y8_ g y13_), ?_⟩
      intro S33_68 q14_ y15_ y16_
      have t69_ : (qI S33_68 v52_0 2).toInt = (qI U52 v52_0 2).toInt := congrArg Int32.toInt (q14_.2.kI (j := 2) y13_ (by decide) (by decide))
      have t70_ : (qI S33_68 v52_0 9).toInt = (qI U52 v52_0 9).toInt := congrArg Int32.toInt (q14_.2.kI (j := 9) y13_ (by decide) (by decide))
      have t71_ : (qN S33_68 (qO S33_68 v52_0 1) : Int) = (qN U52 (qO U52 v52_0 1) : Int) := q14_.2.kL (j := 1) y8_ y13_ (g.row y13_).1.2.1 (by decide) (by decide)
      have t72_ : (qN S33_68 (qO S33_68 v52_0 8) : Int) = (qN U52 (qO U52 v52_0 8) : Int) := q14_.2.kL (j := 8) y8_ y13_ (g.row y13_).1.2.2.2.2.2.2 (by decide) (by decide)
      have t73_ : (qN S33_68 (qO S33_68 v52_0 7) : Int) = (qN U52 (qO U52 v52_0 7) : Int) := q14_.2.kL (j := 7) y8_ y13_ (g.row y13_).1.2.2.2.2.2.1 (by decide) (by decide)
      have t74_ : (qN S33_68 (qO S33_68 v52_0 0) : Int) = (qN U52 (qO U52 v52_0 0) : Int) := q14_.2.kL (j := 0) y8_ y13_ (g.row y13_).1.1 (by decide) (by decide)
      have t75_ : (qN S33_68 (qO S33_68 v52_0 6) : Int) = (qN U52 (qO U52 v52_0 6) : Int) := q14_.2.kL (j := 6) y8_ y13_ (g.row y13_).1.2.2.2.2.1 (by decide) (by decide)
      have t76_ : (qN S33_68 (qO S33_68 v52_0 3) : Int) = (qN U52 (qO U52 v52_0 3) : Int) := q14_.2.kL (j := 3) y8_ y13_ (g.row y13_).1.2.2.1 (by decide) (by decide)
      have t77_ : (qN S33_68 (qO S33_68 v52_0 5) : Int) = (qN U52 (qO U52 v52_0 5) : Int) := q14_.2.kL (j := 5) y8_ y13_ (g.row y13_).1.2.2.2.1 (by decide) (by decide)
      have t78_ : (qI S33_68 v52_1 2).toInt = (qI U52 v52_1 2).toInt := congrArg Int32.toInt (q14_.2.kI (j := 2) y10_ (by decide) (by decide))
      have t79_ : (qI S33_68 v52_1 9).toInt = (qI U52 v52_1 9).toInt := congrArg Int32.toInt (q14_.2.kI (j := 9) y10_ (by decide) (by decide))
      have t80_ : (qN S33_68 (qO S33_68 v52_1 1) : Int) = (qN U52 (qO U52 v52_1 1) : Int) := q14_.2.kL (j := 1) y8_ y10_ (g.row y10_).1.2.1 (by decide) (by decide)
      have t81_ : (qN S33_68 (qO S33_68 v52_1 8) : Int) = (qN U52 (qO U52 v52_1 8) : Int) := q14_.2.kL (j := 8) y8_ y10_ (g.row y10_).1.2.2.2.2.2.2 (by decide) (by decide)
      have t82_ : (qN S33_68 (qO S33_68 v52_1 7) : Int) = (qN U52 (qO U52 v52_1 7) : Int) := q14_.2.kL (j := 7) y8_ y10_ (g.row y10_).1.2.2.2.2.2.1 (by decide) (by decide)
      have t83_ : (qN S33_68 (qO S33_68 v52_1 0) : Int) = (qN U52 (qO U52 v52_1 0) : Int) := q14_.2.kL (j := 0) y8_ y10_ (g.row y10_).1.1 (by decide) (by decide)
      have t84_ : (qN S33_68 (qO S33_68 v52_1 6) : Int) = (qN U52 (qO U52 v52_1 6) : Int) := q14_.2.kL (j := 6) y8_ y10_ (g.row y10_).1.2.2.2.2.1 (by decide) (by decide)
      have t85_ : (qN S33_68 (qO S33_68 v52_1 3) : Int) = (qN U52 (qO U52 v52_1 3) : Int) := q14_.2.kL (j := 3) y8_ y10_ (g.row y10_).1.2.2.1 (by decide) (by decide)
      have t86_ : (qN S33_68 (qO S33_68 v52_1 5) : Int) = (qN U52 (qO U52 v52_1 5) : Int) := q14_.2.kL (j := 5) y8_ y10_ (g.row y10_).1.2.2.2.1 (by decide) (by decide)
      have k87_ : qT S33_68 v52_0 = 47 := q14_.2.1.T y13_ (by decide)
      have k88_ : qT S33_68 v52_1 = 47 := q14_.2.1.T y10_ (by decide)
      have g : ShC B S33_68 := q14_.1.1
      intro a35_89 ea35_89 
      have ga35_89 := congrArg Int32.toInt ea35_89
      refine ih52 g ?_ ?_
      · have s90_ := (g.row k87_).2
        have s91_ := (g.row k88_).2
        have n1_ := rgI a35_89
        have n2_ := rgI v52_2
        have n3_ := rgI (qI U52 v52_1 4)
        have n5_ := lo_1k
        have n5_ := t_addD (a := v52_2) (b := Int32.ofInt 1)
        have n6_ := rgI (v52_2 + Int32.ofInt 1)
        omega
      · have s92_ := (g.row k87_).2
        have s93_ := (g.row k88_).2
        have n1_ := rgI a35_89
        have n2_ := rgI v52_2
        have n3_ := rgI (qI U52 v52_1 4)
        have n5_ := lo_1k
        have n5_ := t_addD (a := v52_2) (b := Int32.ofInt 1)
        have n6_ := rgI (v52_2 + Int32.ofInt 1)
        omega
set_option maxRecDepth 100000 in
theorem sg_X8_copyFrom_L15 {B : Nat × Nat} : ∀ (n : Nat) {U15 : MS} {v15_0 : Nat} {v15_1 : Nat} {v15_2 : Int32}, ShC B U15 → 0 ≤ v15_2.toInt → 2147483648 - v15_2.toInt < n → w_X8_copyFrom_L15 (fun u => ShC B u ∧ (True)) n U15 v15_0 v15_1 v15_2 := by
  intro n
  induction n with
  | zero => intro U15 v15_0 v15_1 v15_2 g j0_ hm_; exfalso; have := rgI v15_2; omega
  | succ n ih15 =>
    intro U15 v15_0 v15_1 v15_2 g j0_ hm_
    unfold w_X8_copyFrom_L15
    intro y17_ y18_ y19_
    refine ⟨fun c94_ => ?_, fun c94_ => ?_⟩
    · intro S4_95 eS4_95 y20_ y21_
      have f96_ : cfr [] [(47, 4)] U15 S4_95 := by rw [eS4_95]; exact cfr.oI y20_ (by decide)
      have b99_ : 0 ≤ ((0 : Int32)).toInt ∧ ((0 : Int32)).toInt ≤ (qN U15 (qO U15 v15_0 3) : Int) := by
        have s97_ := (g.row y18_).2
        have s98_ := (g.row y19_).2
        have n1_ := li_0k
        have n2_ := rgI v15_2
        have n3_ := rgI (qI U15 v15_1 2)
        omega
      have t100_ : (qI S4_95 v15_0 2).toInt = (qI U15 v15_0 2).toInt := congrArg Int32.toInt (f96_.kI (j := 2) y18_ (by decide) (by decide))
      have t101_ : (qI S4_95 v15_0 9).toInt = (qI U15 v15_0 9).toInt := congrArg Int32.toInt (f96_.kI (j := 9) y18_ (by decide) (by decide))
      have t102_ : (qN S4_95 (qO S4_95 v15_0 1) : Int) = (qN U15 (qO U15 v15_0 1) : Int) := f96_.kL (j := 1) y17_ y18_ (g.row y18_).1.2.1 (by decide) (by decide)
      have t103_ : (qN S4_95 (qO S4_95 v15_0 8) : Int) = (qN U15 (qO U15 v15_0 8) : Int) := f96_.kL (j := 8) y17_ y18_ (g.row y18_).1.2.2.2.2.2.2 (by decide) (by decide)
      have t104_ : (qN S4_95 (qO S4_95 v15_0 7) : Int) = (qN U15 (qO U15 v15_0 7) : Int) := f96_.kL (j := 7) y17_ y18_ (g.row y18_).1.2.2.2.2.2.1 (by decide) (by decide)
      have t105_ : (qN S4_95 (qO S4_95 v15_0 0) : Int) = (qN U15 (qO U15 v15_0 0) : Int) := f96_.kL (j := 0) y17_ y18_ (g.row y18_).1.1 (by decide) (by decide)
      have t106_ : (qN S4_95 (qO S4_95 v15_0 6) : Int) = (qN U15 (qO U15 v15_0 6) : Int) := f96_.kL (j := 6) y17_ y18_ (g.row y18_).1.2.2.2.2.1 (by decide) (by decide)
      have t107_ : (qN S4_95 (qO S4_95 v15_0 3) : Int) = (qN U15 (qO U15 v15_0 3) : Int) := f96_.kL (j := 3) y17_ y18_ (g.row y18_).1.2.2.1 (by decide) (by decide)
      have t108_ : (qN S4_95 (qO S4_95 v15_0 5) : Int) = (qN U15 (qO U15 v15_0 5) : Int) := f96_.kL (j := 5) y17_ y18_ (g.row y18_).1.2.2.2.1 (by decide) (by decide)
      have t109_ : (qI S4_95 v15_1 2).toInt = (qI U15 v15_1 2).toInt := congrArg Int32.toInt (f96_.kI (j := 2) y19_ (by decide) (by decide))
      have t110_ : (qI S4_95 v15_1 9).toInt = (qI U15 v15_1 9).toInt := congrArg Int32.toInt (f96_.kI (j := 9) y19_ (by decide) (by decide))
      have t111_ : (qN S4_95 (qO S4_95 v15_1 1) : Int) = (qN U15 (qO U15 v15_1 1) : Int) := f96_.kL (j := 1) y17_ y19_ (g.row y19_).1.2.1 (by decide) (by decide)
      have t112_ : (qN S4_95 (qO S4_95 v15_1 8) : Int) = (qN U15 (qO U15 v15_1 8) : Int) := f96_.kL (j := 8) y17_ y19_ (g.row y19_).1.2.2.2.2.2.2 (by decide) (by decide)
      have t113_ : (qN S4_95 (qO S4_95 v15_1 7) : Int) = (qN U15 (qO U15 v15_1 7) : Int) := f96_.kL (j := 7) y17_ y19_ (g.row y19_).1.2.2.2.2.2.1 (by decide) (by decide)
      have t114_ : (qN S4_95 (qO S4_95 v15_1 0) : Int) = (qN U15 (qO U15 v15_1 0) : Int) := f96_.kL (j := 0) y17_ y19_ (g.row y19_).1.1 (by decide) (by decide)
      have t115_ : (qN S4_95 (qO S4_95 v15_1 6) : Int) = (qN U15 (qO U15 v15_1 6) : Int) := f96_.kL (j := 6) y17_ y19_ (g.row y19_).1.2.2.2.2.1 (by decide) (by decide)
      have t116_ : (qN S4_95 (qO S4_95 v15_1 3) : Int) = (qN U15 (qO U15 v15_1 3) : Int) := f96_.kL (j := 3) y17_ y19_ (g.row y19_).1.2.2.1 (by decide) (by decide)
      have t117_ : (qN S4_95 (qO S4_95 v15_1 5) : Int) = (qN U15 (qO U15 v15_1 5) : Int) := f96_.kL (j := 5) y17_ y19_ (g.row y19_).1.2.2.2.1 (by decide) (by decide)
      have k118_ : qT S4_95 v15_0 = 47 := f96_.1.T y18_ (by decide)
      have k119_ : qT S4_95 v15_1 = 47 := f96_.1.T y19_ (by decide)
      have t120_ : (qI S4_95 v15_0 4).toInt = (0 : Int32).toInt := by rw [eS4_95, qI_wI, if_pos ⟨rfl, rfl⟩]
      have g : ShC B S4_95 := by rw [eS4_95]; exact ShC.cnt y17_ g y20_ (Or.inr (Or.inl ⟨rfl, b99_⟩))
      refine ⟨(2147483648 - (0 : Int32).toInt).toNat + 1, ?_⟩
      refine sg_X8_copyFrom_L52  _ g ?_ ?_
      · have s121_ := (g.row k118_).2
        have s122_ := (g.row k119_).2
        have n1_ := li_0k
        have n2_ := rgI v15_2
        have n3_ := rgI (qI U15 v15_1 2)
        have n4_ := rgI (qI S4_95 v15_0 4)
        omega
      · have s123_ := (g.row k118_).2
        have s124_ := (g.row k119_).2
        have n1_ := li_0k
        have n2_ := rgI v15_2
        have n3_ := rgI (qI U15 v15_1 2)
        have n4_ := rgI (qI S4_95 v15_0 4)
        omega
    · refine ⟨?_, ?_⟩
      · exact (g.row y19_).1.1
      refine ⟨?_, ?_⟩
      · have s125_ := (g.row y18_).2
        have s126_ := (g.row y19_).2
        have n1_ := rgI v15_2
        have n2_ := rgI (qI U15 v15_1 2)
        omega
      refine ⟨?_, ?_⟩
      · exact (g.row y19_).1.2.1
      refine ⟨?_, ?_⟩
      · have s127_ := (g.row y18_).2
        have s128_ := (g.row y19_).2
        have n1_ := rgI v15_2
        have n2_ := rgI (qI U15 v15_1 2)
        omega
      intro y22_
      refine ⟨_, frX8_add y17_ (sgX8_add y17_ g y22_), ?_⟩
      intro S45_129 q23_ y24_ y25_
      have t130_ : (qI S45_129 v15_0 9).toInt = (qI U15 v15_0 9).toInt := congrArg Int32.toInt (q23_.2.kI (j := 9) y22_ (by decide) (by decide))
      have t131_ : (qI S45_129 v15_0 4).toInt = (qI U15 v15_0 4).toInt := congrArg Int32.toInt (q23_.2.kI (j := 4) y22_ (by decide) (by decide))
      have t132_ : (qN S45_129 (qO S45_129 v15_0 1) : Int) = (qN U15 (qO U15 v15_0 1) : Int) := q23_.2.kL (j := 1) y17_ y22_ (g.row y22_).1.2.1 (by decide) (by decide)
      have t133_ : (qN S45_129 (qO S45_129 v15_0 8) : Int) = (qN U15 (qO U15 v15_0 8) : Int) := q23_.2.kL (j := 8) y17_ y22_ (g.row y22_).1.2.2.2.2.2.2 (by decide) (by decide)
      have t134_ : (qN S45_129 (qO S45_129 v15_0 7) : Int) = (qN U15 (qO U15 v15_0 7) : Int) := q23_.2.kL (j := 7) y17_ y22_ (g.row y22_).1.2.2.2.2.2.1 (by decide) (by decide)
      have t135_ : (qN S45_129 (qO S45_129 v15_0 0) : Int) = (qN U15 (qO U15 v15_0 0) : Int) := q23_.2.kL (j := 0) y17_ y22_ (g.row y22_).1.1 (by decide) (by decide)
      have t136_ : (qN S45_129 (qO S45_129 v15_0 6) : Int) = (qN U15 (qO U15 v15_0 6) : Int) := q23_.2.kL (j := 6) y17_ y22_ (g.row y22_).1.2.2.2.2.1 (by decide) (by decide)
      have t137_ : (qN S45_129 (qO S45_129 v15_0 3) : Int) = (qN U15 (qO U15 v15_0 3) : Int) := q23_.2.kL (j := 3) y17_ y22_ (g.row y22_).1.2.2.1 (by decide) (by decide)
      have t138_ : (qN S45_129 (qO S45_129 v15_0 5) : Int) = (qN U15 (qO U15 v15_0 5) : Int) := q23_.2.kL (j := 5) y17_ y22_ (g.row y22_).1.2.2.2.1 (by decide) (by decide)
      have t139_ : (qI S45_129 v15_1 9).toInt = (qI U15 v15_1 9).toInt := congrArg Int32.toInt (q23_.2.kI (j := 9) y19_ (by decide) (by decide))
      have t140_ : (qI S45_129 v15_1 4).toInt = (qI U15 v15_1 4).toInt := congrArg Int32.toInt (q23_.2.kI (j := 4) y19_ (by decide) (by decide))
      have t141_ : (qN S45_129 (qO S45_129 v15_1 1) : Int) = (qN U15 (qO U15 v15_1 1) : Int) := q23_.2.kL (j := 1) y17_ y19_ (g.row y19_).1.2.1 (by decide) (by decide)
      have t142_ : (qN S45_129 (qO S45_129 v15_1 8) : Int) = (qN U15 (qO U15 v15_1 8) : Int) := q23_.2.kL (j := 8) y17_ y19_ (g.row y19_).1.2.2.2.2.2.2 (by decide) (by decide)
      have t143_ : (qN S45_129 (qO S45_129 v15_1 7) : Int) = (qN U15 (qO U15 v15_1 7) : Int) := q23_.2.kL (j := 7) y17_ y19_ (g.row y19_).1.2.2.2.2.2.1 (by decide) (by decide)
      have t144_ : (qN S45_129 (qO S45_129 v15_1 0) : Int) = (qN U15 (qO U15 v15_1 0) : Int) := q23_.2.kL (j := 0) y17_ y19_ (g.row y19_).1.1 (by decide) (by decide)
      have t145_ : (qN S45_129 (qO S45_129 v15_1 6) : Int) = (qN U15 (qO U15 v15_1 6) : Int) := q23_.2.kL (j := 6) y17_ y19_ (g.row y19_).1.2.2.2.2.1 (by decide) (by decide)
      have t146_ : (qN S45_129 (qO S45_129 v15_1 3) : Int) = (qN U15 (qO U15 v15_1 3) : Int) := q23_.2.kL (j := 3) y17_ y19_ (g.row y19_).1.2.2.1 (by decide) (by decide)
      have t147_ : (qN S45_129 (qO S45_129 v15_1 5) : Int) = (qN U15 (qO U15 v15_1 5) : Int) := q23_.2.kL (j := 5) y17_ y19_ (g.row y19_).1.2.2.2.1 (by decide) (by decide)
      have k148_ : qT S45_129 v15_0 = 47 := q23_.2.1.T y22_ (by decide)
      have k149_ : qT S45_129 v15_1 = 47 := q23_.2.1.T y19_ (by decide)
      have g : ShC B S45_129 := q23_.1.1
      intro a47_150 ea47_150 
      have ga47_150 := congrArg Int32.toInt ea47_150
      refine ih15 g ?_ ?_
      · have s151_ := (g.row k148_).2
        have s152_ := (g.row k149_).2
        have n1_ := rgI a47_150
        have n2_ := rgI v15_2
        have n3_ := rgI (qI U15 v15_1 2)
        have n5_ := lo_1k
        have n5_ := t_addD (a := v15_2) (b := Int32.ofInt 1)
        have n6_ := rgI (v15_2 + Int32.ofInt 1)
        omega
      · have s153_ := (g.row k148_).2
        have s154_ := (g.row k149_).2
        have n1_ := rgI a47_150
        have n2_ := rgI v15_2
        have n3_ := rgI (qI U15 v15_1 2)
        have n5_ := lo_1k
        have n5_ := t_addD (a := v15_2) (b := Int32.ofInt 1)
        have n6_ := rgI (v15_2 + Int32.ofInt 1)
        omega
set_option maxRecDepth 100000 in
theorem sgX8_copyFrom {B : Nat × Nat} {S : MS} {p0 : Nat} {p1 : Nat} (hw : wfC S) (g : ShC B S) (k_p0 : qT S p0 = 47) (k_p1 : qT S p1 = 47) : wX8_copyFrom S p0 p1 (fun u => ShC B u ∧ (True)) := by
  unfold wX8_copyFrom
  intro S1_155 eS1_155 y26_ y27_
  have f156_ : cfr [] [(47, 11)] S S1_155 := by rw [eS1_155]; exact cfr.oI y26_ (by decide)
  have t157_ : (qI S1_155 p0 2).toInt = (qI S p0 2).toInt := congrArg Int32.toInt (f156_.kI (j := 2) k_p0 (by decide) (by decide))
  have t158_ : (qI S1_155 p0 9).toInt = (qI S p0 9).toInt := congrArg Int32.toInt (f156_.kI (j := 9) k_p0 (by decide) (by decide))
  have t159_ : (qI S1_155 p0 4).toInt = (qI S p0 4).toInt := congrArg Int32.toInt (f156_.kI (j := 4) k_p0 (by decide) (by decide))
  have t160_ : (qN S1_155 (qO S1_155 p0 1) : Int) = (qN S (qO S p0 1) : Int) := f156_.kL (j := 1) hw k_p0 (g.row k_p0).1.2.1 (by decide) (by decide)
  have t161_ : (qN S1_155 (qO S1_155 p0 8) : Int) = (qN S (qO S p0 8) : Int) := f156_.kL (j := 8) hw k_p0 (g.row k_p0).1.2.2.2.2.2.2 (by decide) (by decide)
  have t162_ : (qN S1_155 (qO S1_155 p0 7) : Int) = (qN S (qO S p0 7) : Int) := f156_.kL (j := 7) hw k_p0 (g.row k_p0).1.2.2.2.2.2.1 (by decide) (by decide)
  have t163_ : (qN S1_155 (qO S1_155 p0 0) : Int) = (qN S (qO S p0 0) : Int) := f156_.kL (j := 0) hw k_p0 (g.row k_p0).1.1 (by decide) (by decide)
  have t164_ : (qN S1_155 (qO S1_155 p0 6) : Int) = (qN S (qO S p0 6) : Int) := f156_.kL (j := 6) hw k_p0 (g.row k_p0).1.2.2.2.2.1 (by decide) (by decide)
  have t165_ : (qN S1_155 (qO S1_155 p0 3) : Int) = (qN S (qO S p0 3) : Int) := f156_.kL (j := 3) hw k_p0 (g.row k_p0).1.2.2.1 (by decide) (by decide)
  have t166_ : (qN S1_155 (qO S1_155 p0 5) : Int) = (qN S (qO S p0 5) : Int) := f156_.kL (j := 5) hw k_p0 (g.row k_p0).1.2.2.2.1 (by decide) (by decide)
  have t167_ : (qI S1_155 p1 2).toInt = (qI S p1 2).toInt := congrArg Int32.toInt (f156_.kI (j := 2) k_p1 (by decide) (by decide))
  have t168_ : (qI S1_155 p1 9).toInt = (qI S p1 9).toInt := congrArg Int32.toInt (f156_.kI (j := 9) k_p1 (by decide) (by decide))
  have t169_ : (qI S1_155 p1 4).toInt = (qI S p1 4).toInt := congrArg Int32.toInt (f156_.kI (j := 4) k_p1 (by decide) (by decide))
  have t170_ : (qN S1_155 (qO S1_155 p1 1) : Int) = (qN S (qO S p1 1) : Int) := f156_.kL (j := 1) hw k_p1 (g.row k_p1).1.2.1 (by decide) (by decide)
  have t171_ : (qN S1_155 (qO S1_155 p1 8) : Int) = (qN S (qO S p1 8) : Int) := f156_.kL (j := 8) hw k_p1 (g.row k_p1).1.2.2.2.2.2.2 (by decide) (by decide)
  have t172_ : (qN S1_155 (qO S1_155 p1 7) : Int) = (qN S (qO S p1 7) : Int) := f156_.kL (j := 7) hw k_p1 (g.row k_p1).1.2.2.2.2.2.1 (by decide) (by decide)
  have t173_ : (qN S1_155 (qO S1_155 p1 0) : Int) = (qN S (qO S p1 0) : Int) := f156_.kL (j := 0) hw k_p1 (g.row k_p1).1.1 (by decide) (by decide)
  have t174_ : (qN S1_155 (qO S1_155 p1 6) : Int) = (qN S (qO S p1 6) : Int) := f156_.kL (j := 6) hw k_p1 (g.row k_p1).1.2.2.2.2.1 (by decide) (by decide)
  have t175_ : (qN S1_155 (qO S1_155 p1 3) : Int) = (qN S (qO S p1 3) : Int) := f156_.kL (j := 3) hw k_p1 (g.row k_p1).1.2.2.1 (by decide) (by decide)
  have t176_ : (qN S1_155 (qO S1_155 p1 5) : Int) = (qN S (qO S p1 5) : Int) := f156_.kL (j := 5) hw k_p1 (g.row k_p1).1.2.2.2.1 (by decide) (by decide)
  have k177_ : qT S1_155 p0 = 47 := f156_.1.T k_p0 (by decide)
  have k178_ : qT S1_155 p1 = 47 := f156_.1.T k_p1 (by decide)
  have t179_ : (qI S1_155 p0 11).toInt = (qI S p1 11).toInt := by rw [eS1_155, qI_wI, if_pos ⟨rfl, rfl⟩]
  have g : ShC B S1_155 := ShC.ws hw g f156_ (by rw [eS1_155]; rfl) (by rw [eS1_155]; rfl) (by rw [eS1_155]; rfl) rfl rfl
  intro S2_180 eS2_180 y28_ y29_
  have f181_ : cfr [] [(47, 2)] S1_155 S2_180 := by rw [eS2_180]; exact cfr.oI y28_ (by decide)
  have b184_ : 0 ≤ ((0 : Int32)).toInt ∧ ((0 : Int32)).toInt ≤ (qN S1_155 (qO S1_155 p0 0) : Int) := by
    have s182_ := (g.row k177_).2
    have s183_ := (g.row k178_).2
    have n1_ := li_0k
    have n2_ := rgI (qI S1_155 p0 11)
    have n3_ := rgI (qI S p1 11)
    omega
  have t185_ : (qI S2_180 p0 9).toInt = (qI S1_155 p0 9).toInt := congrArg Int32.toInt (f181_.kI (j := 9) k177_ (by decide) (by decide))
  have t186_ : (qI S2_180 p0 4).toInt = (qI S1_155 p0 4).toInt := congrArg Int32.toInt (f181_.kI (j := 4) k177_ (by decide) (by decide))
  have t187_ : (qN S2_180 (qO S2_180 p0 1) : Int) = (qN S1_155 (qO S1_155 p0 1) : Int) := f181_.kL (j := 1) y27_ k177_ (g.row k177_).1.2.1 (by decide) (by decide)
  have t188_ : (qN S2_180 (qO S2_180 p0 8) : Int) = (qN S1_155 (qO S1_155 p0 8) : Int) := f181_.kL (j := 8) y27_ k177_ (g.row k177_).1.2.2.2.2.2.2 (by decide) (by decide)
  have t189_ : (qN S2_180 (qO S2_180 p0 7) : Int) = (qN S1_155 (qO S1_155 p0 7) : Int) := f181_.kL (j := 7) y27_ k177_ (g.row k177_).1.2.2.2.2.2.1 (by decide) (by decide)
  have t190_ : (qN S2_180 (qO S2_180 p0 0) : Int) = (qN S1_155 (qO S1_155 p0 0) : Int) := f181_.kL (j := 0) y27_ k177_ (g.row k177_).1.1 (by decide) (by decide)
  have t191_ : (qN S2_180 (qO S2_180 p0 6) : Int) = (qN S1_155 (qO S1_155 p0 6) : Int) := f181_.kL (j := 6) y27_ k177_ (g.row k177_).1.2.2.2.2.1 (by decide) (by decide)
  have t192_ : (qN S2_180 (qO S2_180 p0 3) : Int) = (qN S1_155 (qO S1_155 p0 3) : Int) := f181_.kL (j := 3) y27_ k177_ (g.row k177_).1.2.2.1 (by decide) (by decide)
  have t193_ : (qN S2_180 (qO S2_180 p0 5) : Int) = (qN S1_155 (qO S1_155 p0 5) : Int) := f181_.kL (j := 5) y27_ k177_ (g.row k177_).1.2.2.2.1 (by decide) (by decide)
  have t194_ : (qI S2_180 p1 9).toInt = (qI S1_155 p1 9).toInt := congrArg Int32.toInt (f181_.kI (j := 9) k178_ (by decide) (by decide))
  have t195_ : (qI S2_180 p1 4).toInt = (qI S1_155 p1 4).toInt := congrArg Int32.toInt (f181_.kI (j := 4) k178_ (by decide) (by decide))
  have t196_ : (qN S2_180 (qO S2_180 p1 1) : Int) = (qN S1_155 (qO S1_155 p1 1) : Int) := f181_.kL (j := 1) y27_ k178_ (g.row k178_).1.2.1 (by decide) (by decide)
  have t197_ : (qN S2_180 (qO S2_180 p1 8) : Int) = (qN S1_155 (qO S1_155 p1 8) : Int) := f181_.kL (j := 8) y27_ k178_ (g.row k178_).1.2.2.2.2.2.2 (by decide) (by decide)
  have t198_ : (qN S2_180 (qO S2_180 p1 7) : Int) = (qN S1_155 (qO S1_155 p1 7) : Int) := f181_.kL (j := 7) y27_ k178_ (g.row k178_).1.2.2.2.2.2.1 (by decide) (by decide)
  have t199_ : (qN S2_180 (qO S2_180 p1 0) : Int) = (qN S1_155 (qO S1_155 p1 0) : Int) := f181_.kL (j := 0) y27_ k178_ (g.row k178_).1.1 (by decide) (by decide)
  have t200_ : (qN S2_180 (qO S2_180 p1 6) : Int) = (qN S1_155 (qO S1_155 p1 6) : Int) := f181_.kL (j := 6) y27_ k178_ (g.row k178_).1.2.2.2.2.1 (by decide) (by decide)
  have t201_ : (qN S2_180 (qO S2_180 p1 3) : Int) = (qN S1_155 (qO S1_155 p1 3) : Int) := f181_.kL (j := 3) y27_ k178_ (g.row k178_).1.2.2.1 (by decide) (by decide)
  have t202_ : (qN S2_180 (qO S2_180 p1 5) : Int) = (qN S1_155 (qO S1_155 p1 5) : Int) := f181_.kL (j := 5) y27_ k178_ (g.row k178_).1.2.2.2.1 (by decide) (by decide)
  have k203_ : qT S2_180 p0 = 47 := f181_.1.T k177_ (by decide)
  have k204_ : qT S2_180 p1 = 47 := f181_.1.T k178_ (by decide)
  have t205_ : (qI S2_180 p0 2).toInt = (0 : Int32).toInt := by rw [eS2_180, qI_wI, if_pos ⟨rfl, rfl⟩]
  have g : ShC B S2_180 := by rw [eS2_180]; exact ShC.cnt y27_ g y28_ (Or.inl ⟨rfl, b184_⟩)
  refine ⟨(2147483648 - (0 : Int32).toInt).toNat + 1, ?_⟩
  refine sg_X8_copyFrom_L15  _ g ?_ ?_
  · have s206_ := (g.row k203_).2
    have s207_ := (g.row k204_).2
    have n1_ := li_0k
    have n2_ := rgI (qI S1_155 p0 11)
    have n3_ := rgI (qI S p1 11)
    have n4_ := rgI (qI S2_180 p0 2)
    omega
  · have s208_ := (g.row k203_).2
    have s209_ := (g.row k204_).2
    have n1_ := li_0k
    have n2_ := rgI (qI S1_155 p0 11)
    have n3_ := rgI (qI S p1 11)
    have n4_ := rgI (qI S2_180 p0 2)
    omega
set_option maxRecDepth 100000 in
theorem sg_X8_remove_L138 {B : Nat × Nat} : ∀ (n : Nat) {U138 : MS} {v138_0 : Nat} {v138_1 : Int32} {v138_2 : Int32} {v138_3 : Int32} {v138_4 : Int32}, ShC B U138 → 0 ≤ v138_4.toInt → 0 ≤ v138_3.toInt → v138_3.toInt ≤ v138_4.toInt → v138_3.toInt ≤ (qI U138 v138_0 9).toInt → v138_2.toInt ≤ 3 → v138_1.toInt ≤ 100000 → 2147483648 - v138_4.toInt < n → w_X8_remove_L138 (fun u => ShC B u ∧ (True)) n U138 v138_0 v138_1 v138_2 v138_3 v138_4 := by
  intro n
  induction n with
  | zero => intro U138 v138_0 v138_1 v138_2 v138_3 v138_4 g j0_ j1_ j2_ j3_ j4_ j5_ hm_; exfalso; have := rgI v138_1; have := rgI v138_2; have := rgI v138_3; have := rgI v138_4; omega
  | succ n ih138 =>
    intro U138 v138_0 v138_1 v138_2 v138_3 v138_4 g j0_ j1_ j2_ j3_ j4_ j5_ hm_
    unfold w_X8_remove_L138
    intro y1_ y2_
    refine ⟨fun c0_ => ?_, fun c0_ => ?_⟩
    · intro S11_1 eS11_1 y3_ y4_
      have f2_ : cfr [] [(47, 9)] U138 S11_1 := by rw [eS11_1]; exact cfr.oI y3_ (by decide)
      have b4_ : 0 ≤ (v138_3).toInt ∧ (v138_3).toInt ≤ (qN U138 (qO U138 v138_0 5) : Int) := by
        have s3_ := (g.row y2_).2
        have n1_ := rgI v138_3
        have n2_ := rgI v138_4
        have n3_ := rgI (qI U138 v138_0 9)
        have n4_ := rgI v138_2
        have n5_ := rgI v138_1
        omega
      have t5_ : (qI S11_1 v138_0 4).toInt = (qI U138 v138_0 4).toInt := congrArg Int32.toInt (f2_.kI (j := 4) y2_ (by decide) (by decide))
      have t6_ : (qI S11_1 v138_0 2).toInt = (qI U138 v138_0 2).toInt := congrArg Int32.toInt (f2_.kI (j := 2) y2_ (by decide) (by decide))
      have t7_ : (qN S11_1 (qO S11_1 v138_0 1) : Int) = (qN U138 (qO U138 v138_0 1) : Int) := f2_.kL (j := 1) y1_ y2_ (g.row y2_).1.2.1 (by decide) (by decide)
      have t8_ : (qN S11_1 (qO S11_1 v138_0 8) : Int) = (qN U138 (qO U138 v138_0 8) : Int) := f2_.kL (j := 8) y1_ y2_ (g.row y2_).1.2.2.2.2.2.2 (by decide) (by decide)
      have t9_ : (qN S11_1 (qO S11_1 v138_0 7) : Int) = (qN U138 (qO U138 v138_0 7) : Int) := f2_.kL (j := 7) y1_ y2_ (g.row y2_).1.2.2.2.2.2.1 (by decide) (by decide)
      have t10_ : (qN S11_1 (qO S11_1 v138_0 0) : Int) = (qN U138 (qO U138 v138_0 0) : Int) := f2_.kL (j := 0) y1_ y2_ (g.row y2_).1.1 (by decide) (by decide)
      have t11_ : (qN S11_1 (qO S11_1 v138_0 6) : Int) = (qN U138 (qO U138 v138_0 6) : Int) := f2_.kL (j := 6) y1_ y2_ (g.row y2_).1.2.2.2.2.1 (by decide) (by decide)
      have t12_ : (qN S11_1 (qO S11_1 v138_0 3) : Int) = (qN U138 (qO U138 v138_0 3) : Int) := f2_.kL (j := 3) y1_ y2_ (g.row y2_).1.2.2.1 (by decide) (by decide)
      have t13_ : (qN S11_1 (qO S11_1 v138_0 5) : Int) = (qN U138 (qO U138 v138_0 5) : Int) := f2_.kL (j := 5) y1_ y2_ (g.row y2_).1.2.2.2.1 (by decide) (by decide)
      have k14_ : qT S11_1 v138_0 = 47 := f2_.1.T y2_ (by decide)
      have t15_ : (qI S11_1 v138_0 9).toInt = v138_3.toInt := by rw [eS11_1, qI_wI, if_pos ⟨rfl, rfl⟩]
      have g : ShC B S11_1 := by rw [eS11_1]; exact ShC.cnt y1_ g y3_ (Or.inr (Or.inr ⟨rfl, b4_⟩))
      exact ⟨g, trivial⟩
    · refine ⟨?_, ?_⟩
      · exact (g.row y2_).1.2.2.2.1
      refine ⟨?_, ?_⟩
      · have s16_ := (g.row y2_).2
        have n1_ := rgI v138_4
        have n2_ := rgI v138_3
        have n3_ := rgI (qI U138 v138_0 9)
        have n4_ := rgI v138_2
        have n5_ := rgI v138_1
        omega
      refine ⟨?_, ?_⟩
      · exact dd_X8_behindRemoved
      intro a19_17 ea19_17 
      have ga19_17 := congrArg Int32.toInt ea19_17
      refine ⟨?_, ?_⟩
      · exact (g.row y2_).1.2.2.2.2.1
      refine ⟨?_, ?_⟩
      · have s18_ := (g.row y2_).2
        have n1_ := rgI v138_4
        have n2_ := rgI v138_3
        have n3_ := rgI (qI U138 v138_0 9)
        have n4_ := rgI v138_2
        have n5_ := rgI v138_1
        have n6_ := rgI a19_17
        have n7_ := rgI (fX8_behindRemoved U138 (qI U138 (qO U138 v138_0 5) v138_4.toInt.toNat) v138_1 v138_2)
        omega
      refine ⟨?_, ?_⟩
      · exact dd_X8_behindRemoved
      intro a27_19 ea27_19 
      have ga27_19 := congrArg Int32.toInt ea27_19
      refine ⟨fun c20_ => ?_, fun c20_ => ?_⟩
      · unfold w_X8_remove_J232
        intro y5_ y6_
        intro a28_21 ea28_21 
        have ga28_21 := congrArg Int32.toInt ea28_21
        refine ih138 g ?_ ?_ ?_ ?_ ?_ ?_ ?_
        · have s22_ := (g.row y6_).2
          have n1_ := rgI a28_21
          have n2_ := rgI v138_4
          have n3_ := rgI v138_3
          have n4_ := rgI (qI U138 v138_0 9)
          have n5_ := rgI v138_2
          have n6_ := rgI v138_1
          have n7_ := rgI a19_17
          have n8_ := rgI (fX8_behindRemoved U138 (qI U138 (qO U138 v138_0 5) v138_4.toInt.toNat) v138_1 v138_2)
          have n9_ := rgI a27_19
          have n10_ := rgI (fX8_behindRemoved U138 (qI U138 (qO U138 v138_0 6) v138_4.toInt.toNat) v138_1 v138_2)
          have n12_ := lo_1k
          have n12_ := t_addD (a := v138_4) (b := Int32.ofInt 1)
          have n13_ := rgI (v138_4 + Int32.ofInt 1)
          omega
        · have s23_ := (g.row y6_).2
          have n1_ := rgI v138_3
          have n2_ := rgI v138_4
          have n3_ := rgI (qI U138 v138_0 9)
          have n4_ := rgI v138_2
          have n5_ := rgI v138_1
          have n6_ := rgI a19_17
          have n7_ := rgI (fX8_behindRemoved U138 (qI U138 (qO U138 v138_0 5) v138_4.toInt.toNat) v138_1 v138_2)
          have n8_ := rgI a27_19
          have n9_ := rgI (fX8_behindRemoved U138 (qI U138 (qO U138 v138_0 6) v138_4.toInt.toNat) v138_1 v138_2)
          have n10_ := rgI a28_21
          have n12_ := lo_1k
          have n12_ := t_addD (a := v138_4) (b := Int32.ofInt 1)
          have n13_ := rgI (v138_4 + Int32.ofInt 1)
          omega
        · have s24_ := (g.row y6_).2
          have n1_ := rgI v138_3
          have n2_ := rgI a28_21
          have n3_ := rgI v138_4
          have n4_ := rgI (qI U138 v138_0 9)
          have n5_ := rgI v138_2
          have n6_ := rgI v138_1
          have n7_ := rgI a19_17
          have n8_ := rgI (fX8_behindRemoved U138 (qI U138 (qO U138 v138_0 5) v138_4.toInt.toNat) v138_1 v138_2)
          have n9_ := rgI a27_19
          have n10_ := rgI (fX8_behindRemoved U138 (qI U138 (qO U138 v138_0 6) v138_4.toInt.toNat) v138_1 v138_2)
          have n12_ := lo_1k
          have n12_ := t_addD (a := v138_4) (b := Int32.ofInt 1)
          have n13_ := rgI (v138_4 + Int32.ofInt 1)
          omega
        · have s25_ := (g.row y6_).2
          have n1_ := rgI v138_3
          have n2_ := rgI (qI U138 v138_0 9)
          have n3_ := rgI v138_4
          have n4_ := rgI v138_2
          have n5_ := rgI v138_1
          have n6_ := rgI a19_17
          have n7_ := rgI (fX8_behindRemoved U138 (qI U138 (qO U138 v138_0 5) v138_4.toInt.toNat) v138_1 v138_2)
          have n8_ := rgI a27_19
          have n9_ := rgI (fX8_behindRemoved U138 (qI U138 (qO U138 v138_0 6) v138_4.toInt.toNat) v138_1 v138_2)
          have n10_ := rgI a28_21
          have n12_ := lo_1k
          have n12_ := t_addD (a := v138_4) (b := Int32.ofInt 1)
          have n13_ := rgI (v138_4 + Int32.ofInt 1)
          omega
        · have s26_ := (g.row y6_).2
          have n1_ := rgI v138_2
          have n2_ := rgI v138_4
          have n3_ := rgI v138_3
          have n4_ := rgI (qI U138 v138_0 9)
          have n5_ := rgI v138_1
          have n6_ := rgI a19_17
          have n7_ := rgI (fX8_behindRemoved U138 (qI U138 (qO U138 v138_0 5) v138_4.toInt.toNat) v138_1 v138_2)
          have n8_ := rgI a27_19
          have n9_ := rgI (fX8_behindRemoved U138 (qI U138 (qO U138 v138_0 6) v138_4.toInt.toNat) v138_1 v138_2)
          have n10_ := rgI a28_21
          have n12_ := lo_1k
          have n12_ := t_addD (a := v138_4) (b := Int32.ofInt 1)
          have n13_ := rgI (v138_4 + Int32.ofInt 1)
          omega
        · have s27_ := (g.row y6_).2
          have n1_ := rgI v138_1
          have n2_ := rgI v138_4
          have n3_ := rgI v138_3
          have n4_ := rgI (qI U138 v138_0 9)
          have n5_ := rgI v138_2
          have n6_ := rgI a19_17
          have n7_ := rgI (fX8_behindRemoved U138 (qI U138 (qO U138 v138_0 5) v138_4.toInt.toNat) v138_1 v138_2)
          have n8_ := rgI a27_19
          have n9_ := rgI (fX8_behindRemoved U138 (qI U138 (qO U138 v138_0 6) v138_4.toInt.toNat) v138_1 v138_2)
          have n10_ := rgI a28_21
          have n12_ := lo_1k
          have n12_ := t_addD (a := v138_4) (b := Int32.ofInt 1)
          have n13_ := rgI (v138_4 + Int32.ofInt 1)
          omega
        · have s28_ := (g.row y6_).2
          have n1_ := rgI a28_21
          have n2_ := rgI v138_4
          have n3_ := rgI v138_3
          have n4_ := rgI (qI U138 v138_0 9)
          have n5_ := rgI v138_2
          have n6_ := rgI v138_1
          have n7_ := rgI a19_17
          have n8_ := rgI (fX8_behindRemoved U138 (qI U138 (qO U138 v138_0 5) v138_4.toInt.toNat) v138_1 v138_2)
          have n9_ := rgI a27_19
          have n10_ := rgI (fX8_behindRemoved U138 (qI U138 (qO U138 v138_0 6) v138_4.toInt.toNat) v138_1 v138_2)
          have n12_ := lo_1k
          have n12_ := t_addD (a := v138_4) (b := Int32.ofInt 1)
          have n13_ := rgI (v138_4 + Int32.ofInt 1)
          omega
      · refine ⟨?_, ?_⟩
        · exact (g.row y2_).1.2.2.2.1
        refine ⟨?_, ?_⟩
        · have s29_ := (g.row y2_).2
          have n1_ := rgI v138_3
          have n2_ := rgI v138_4
          have n3_ := rgI (qI U138 v138_0 9)
          have n4_ := rgI v138_2
          have n5_ := rgI v138_1
          have n6_ := rgI a19_17
          have n7_ := rgI (fX8_behindRemoved U138 (qI U138 (qO U138 v138_0 5) v138_4.toInt.toNat) v138_1 v138_2)
          have n8_ := rgI a27_19
          have n9_ := rgI (fX8_behindRemoved U138 (qI U138 (qO U138 v138_0 6) v138_4.toInt.toNat) v138_1 v138_2)
          omega
        intro S33_30 eS33_30 y7_ y8_
        have f31_ : cfr [224] [] U138 S33_30 := by rw [eS33_30]; exact cfr.aI y7_ (by decide)
        have t32_ : (qI S33_30 v138_0 4).toInt = (qI U138 v138_0 4).toInt := congrArg Int32.toInt (f31_.kI (j := 4) y2_ (by decide) (by decide))
        have t33_ : (qI S33_30 v138_0 9).toInt = (qI U138 v138_0 9).toInt := congrArg Int32.toInt (f31_.kI (j := 9) y2_ (by decide) (by decide))
        have t34_ : (qI S33_30 v138_0 2).toInt = (qI U138 v138_0 2).toInt := congrArg Int32.toInt (f31_.kI (j := 2) y2_ (by decide) (by decide))
        have t35_ : (qN S33_30 (qO S33_30 v138_0 1) : Int) = (qN U138 (qO U138 v138_0 1) : Int) := f31_.kL (j := 1) y1_ y2_ (g.row y2_).1.2.1 (by decide) (by decide)
        have t36_ : (qN S33_30 (qO S33_30 v138_0 8) : Int) = (qN U138 (qO U138 v138_0 8) : Int) := f31_.kL (j := 8) y1_ y2_ (g.row y2_).1.2.2.2.2.2.2 (by decide) (by decide)
        have t37_ : (qN S33_30 (qO S33_30 v138_0 7) : Int) = (qN U138 (qO U138 v138_0 7) : Int) := f31_.kL (j := 7) y1_ y2_ (g.row y2_).1.2.2.2.2.2.1 (by decide) (by decide)
        have t38_ : (qN S33_30 (qO S33_30 v138_0 0) : Int) = (qN U138 (qO U138 v138_0 0) : Int) := f31_.kL (j := 0) y1_ y2_ (g.row y2_).1.1 (by decide) (by decide)
        have t39_ : (qN S33_30 (qO S33_30 v138_0 6) : Int) = (qN U138 (qO U138 v138_0 6) : Int) := f31_.kL (j := 6) y1_ y2_ (g.row y2_).1.2.2.2.2.1 (by decide) (by decide)
        have t40_ : (qN S33_30 (qO S33_30 v138_0 3) : Int) = (qN U138 (qO U138 v138_0 3) : Int) := f31_.kL (j := 3) y1_ y2_ (g.row y2_).1.2.2.1 (by decide) (by decide)
        have t41_ : (qN S33_30 (qO S33_30 v138_0 5) : Int) = (qN U138 (qO U138 v138_0 5) : Int) := f31_.kL (j := 5) y1_ y2_ (g.row y2_).1.2.2.2.1 (by decide) (by decide)
        have k42_ : qT S33_30 v138_0 = 47 := f31_.1.T y2_ (by decide)
        have g : ShC B S33_30 := ShC.ws y1_ g f31_ (by rw [eS33_30]; rfl) (by rw [eS33_30]; rfl) (by rw [eS33_30]; rfl) rfl rfl
        refine ⟨?_, ?_⟩
        · exact (g.row k42_).1.2.2.2.2.1
        refine ⟨?_, ?_⟩
        · have s43_ := (g.row k42_).2
          have n1_ := rgI v138_3
          have n2_ := rgI v138_4
          have n3_ := rgI (qI U138 v138_0 9)
          have n4_ := rgI v138_2
          have n5_ := rgI v138_1
          have n6_ := rgI a19_17
          have n7_ := rgI (fX8_behindRemoved U138 (qI U138 (qO U138 v138_0 5) v138_4.toInt.toNat) v138_1 v138_2)
          have n8_ := rgI a27_19
          have n9_ := rgI (fX8_behindRemoved U138 (qI U138 (qO U138 v138_0 6) v138_4.toInt.toNat) v138_1 v138_2)
          omega
        intro S37_44 eS37_44 y9_ y10_
        have f45_ : cfr [225] [] S33_30 S37_44 := by rw [eS37_44]; exact cfr.aI y9_ (by decide)
        have t46_ : (qI S37_44 v138_0 4).toInt = (qI S33_30 v138_0 4).toInt := congrArg Int32.toInt (f45_.kI (j := 4) k42_ (by decide) (by decide))
        have t47_ : (qI S37_44 v138_0 9).toInt = (qI S33_30 v138_0 9).toInt := congrArg Int32.toInt (f45_.kI (j := 9) k42_ (by decide) (by decide))
        have t48_ : (qI S37_44 v138_0 2).toInt = (qI S33_30 v138_0 2).toInt := congrArg Int32.toInt (f45_.kI (j := 2) k42_ (by decide) (by decide))
        have t49_ : (qN S37_44 (qO S37_44 v138_0 1) : Int) = (qN S33_30 (qO S33_30 v138_0 1) : Int) := f45_.kL (j := 1) y8_ k42_ (g.row k42_).1.2.1 (by decide) (by decide)
        have t50_ : (qN S37_44 (qO S37_44 v138_0 8) : Int) = (qN S33_30 (qO S33_30 v138_0 8) : Int) := f45_.kL (j := 8) y8_ k42_ (g.row k42_).1.2.2.2.2.2.2 (by decide) (by decide)
        have t51_ : (qN S37_44 (qO S37_44 v138_0 7) : Int) = (qN S33_30 (qO S33_30 v138_0 7) : Int) := f45_.kL (j := 7) y8_ k42_ (g.row k42_).1.2.2.2.2.2.1 (by decide) (by decide)
        have t52_ : (qN S37_44 (qO S37_44 v138_0 0) : Int) = (qN S33_30 (qO S33_30 v138_0 0) : Int) := f45_.kL (j := 0) y8_ k42_ (g.row k42_).1.1 (by decide) (by decide)
        have t53_ : (qN S37_44 (qO S37_44 v138_0 6) : Int) = (qN S33_30 (qO S33_30 v138_0 6) : Int) := f45_.kL (j := 6) y8_ k42_ (g.row k42_).1.2.2.2.2.1 (by decide) (by decide)
        have t54_ : (qN S37_44 (qO S37_44 v138_0 3) : Int) = (qN S33_30 (qO S33_30 v138_0 3) : Int) := f45_.kL (j := 3) y8_ k42_ (g.row k42_).1.2.2.1 (by decide) (by decide)
        have t55_ : (qN S37_44 (qO S37_44 v138_0 5) : Int) = (qN S33_30 (qO S33_30 v138_0 5) : Int) := f45_.kL (j := 5) y8_ k42_ (g.row k42_).1.2.2.2.1 (by decide) (by decide)
        have k56_ : qT S37_44 v138_0 = 47 := f45_.1.T k42_ (by decide)
        have g : ShC B S37_44 := ShC.ws y8_ g f45_ (by rw [eS37_44]; rfl) (by rw [eS37_44]; rfl) (by rw [eS37_44]; rfl) rfl rfl
        refine ⟨?_, ?_⟩
        · exact (g.row k56_).1.2.2.2.2.2.1
        refine ⟨?_, ?_⟩
        · exact (g.row k56_).1.2.2.2.2.2.1
        refine ⟨?_, ?_⟩
        · have s57_ := (g.row k56_).2
          have n1_ := rgI v138_4
          have n2_ := rgI v138_3
          have n3_ := rgI (qI U138 v138_0 9)
          have n4_ := rgI v138_2
          have n5_ := rgI v138_1
          have n6_ := rgI a19_17
          have n7_ := rgI (fX8_behindRemoved U138 (qI U138 (qO U138 v138_0 5) v138_4.toInt.toNat) v138_1 v138_2)
          have n8_ := rgI a27_19
          have n9_ := rgI (fX8_behindRemoved U138 (qI U138 (qO U138 v138_0 6) v138_4.toInt.toNat) v138_1 v138_2)
          omega
        refine ⟨?_, ?_⟩
        · exact dd_X8_behindRemoved
        intro a47_58 ea47_58 
        have ga47_58 := congrArg Int32.toInt ea47_58
        refine ⟨?_, ?_⟩
        · have s59_ := (g.row k56_).2
          have n1_ := rgI v138_3
          have n2_ := rgI v138_4
          have n3_ := rgI (qI U138 v138_0 9)
          have n4_ := rgI v138_2
          have n5_ := rgI v138_1
          have n6_ := rgI a19_17
          have n7_ := rgI (fX8_behindRemoved U138 (qI U138 (qO U138 v138_0 5) v138_4.toInt.toNat) v138_1 v138_2)
          have n8_ := rgI a27_19
          have n9_ := rgI (fX8_behindRemoved U138 (qI U138 (qO U138 v138_0 6) v138_4.toInt.toNat) v138_1 v138_2)
          have n10_ := rgI a47_58
          have n11_ := rgI (fX8_behindRemoved S37_44 (qI S37_44 (qO S37_44 v138_0 7) v138_4.toInt.toNat) v138_1 v138_2)
          omega
        intro S49_60 eS49_60 y11_ y12_
        have f61_ : cfr [226] [] S37_44 S49_60 := by rw [eS49_60]; exact cfr.aI y11_ (by decide)
        have t62_ : (qI S49_60 v138_0 4).toInt = (qI S37_44 v138_0 4).toInt := congrArg Int32.toInt (f61_.kI (j := 4) k56_ (by decide) (by decide))
        have t63_ : (qI S49_60 v138_0 9).toInt = (qI S37_44 v138_0 9).toInt := congrArg Int32.toInt (f61_.kI (j := 9) k56_ (by decide) (by decide))
        have t64_ : (qI S49_60 v138_0 2).toInt = (qI S37_44 v138_0 2).toInt := congrArg Int32.toInt (f61_.kI (j := 2) k56_ (by decide) (by decide))
        have t65_ : (qN S49_60 (qO S49_60 v138_0 1) : Int) = (qN S37_44 (qO S37_44 v138_0 1) : Int) := f61_.kL (j := 1) y10_ k56_ (g.row k56_).1.2.1 (by decide) (by decide)
        have t66_ : (qN S49_60 (qO S49_60 v138_0 8) : Int) = (qN S37_44 (qO S37_44 v138_0 8) : Int) := f61_.kL (j := 8) y10_ k56_ (g.row k56_).1.2.2.2.2.2.2 (by decide) (by decide)
        have t67_ : (qN S49_60 (qO S49_60 v138_0 7) : Int) = (qN S37_44 (qO S37_44 v138_0 7) : Int) := f61_.kL (j := 7) y10_ k56_ (g.row k56_).1.2.2.2.2.2.1 (by decide) (by decide)
        have t68_ : (qN S49_60 (qO S49_60 v138_0 0) : Int) = (qN S37_44 (qO S37_44 v138_0 0) : Int) := f61_.kL (j := 0) y10_ k56_ (g.row k56_).1.1 (by decide) (by decide)
        have t69_ : (qN S49_60 (qO S49_60 v138_0 6) : Int) = (qN S37_44 (qO S37_44 v138_0 6) : Int) := f61_.kL (j := 6) y10_ k56_ (g.row k56_).1.2.2.2.2.1 (by decide) (by decide)
        have t70_ : (qN S49_60 (qO S49_60 v138_0 3) : Int) = (qN S37_44 (qO S37_44 v138_0 3) : Int) := f61_.kL (j := 3) y10_ k56_ (g.row k56_).1.2.2.1 (by decide) (by decide)
        have t71_ : (qN S49_60 (qO S49_60 v138_0 5) : Int) = (qN S37_44 (qO S37_44 v138_0 5) : Int) := f61_.kL (j := 5) y10_ k56_ (g.row k56_).1.2.2.2.1 (by decide) (by decide)
        have k72_ : qT S49_60 v138_0 = 47 := f61_.1.T k56_ (by decide)
        have g : ShC B S49_60 := ShC.ws y10_ g f61_ (by rw [eS49_60]; rfl) (by rw [eS49_60]; rfl) (by rw [eS49_60]; rfl) rfl rfl
        refine ⟨?_, ?_⟩
        · exact (g.row k72_).1.2.2.2.2.2.2
        refine ⟨?_, ?_⟩
        · exact (g.row k72_).1.2.2.2.2.2.2
        refine ⟨?_, ?_⟩
        · have s73_ := (g.row k72_).2
          have n1_ := rgI v138_4
          have n2_ := rgI v138_3
          have n3_ := rgI (qI U138 v138_0 9)
          have n4_ := rgI v138_2
          have n5_ := rgI v138_1
          have n6_ := rgI a19_17
          have n7_ := rgI (fX8_behindRemoved U138 (qI U138 (qO U138 v138_0 5) v138_4.toInt.toNat) v138_1 v138_2)
          have n8_ := rgI a27_19
          have n9_ := rgI (fX8_behindRemoved U138 (qI U138 (qO U138 v138_0 6) v138_4.toInt.toNat) v138_1 v138_2)
          have n10_ := rgI a47_58
          have n11_ := rgI (fX8_behindRemoved S37_44 (qI S37_44 (qO S37_44 v138_0 7) v138_4.toInt.toNat) v138_1 v138_2)
          omega
        refine ⟨?_, ?_⟩
        · have s74_ := (g.row k72_).2
          have n1_ := rgI v138_3
          have n2_ := rgI v138_4
          have n3_ := rgI (qI U138 v138_0 9)
          have n4_ := rgI v138_2
          have n5_ := rgI v138_1
          have n6_ := rgI a19_17
          have n7_ := rgI (fX8_behindRemoved U138 (qI U138 (qO U138 v138_0 5) v138_4.toInt.toNat) v138_1 v138_2)
          have n8_ := rgI a27_19
          have n9_ := rgI (fX8_behindRemoved U138 (qI U138 (qO U138 v138_0 6) v138_4.toInt.toNat) v138_1 v138_2)
          have n10_ := rgI a47_58
          have n11_ := rgI (fX8_behindRemoved S37_44 (qI S37_44 (qO S37_44 v138_0 7) v138_4.toInt.toNat) v138_1 v138_2)
          omega
        intro S57_75 eS57_75 y13_ y14_
        have f76_ : cfr [227] [] S49_60 S57_75 := by rw [eS57_75]; exact cfr.aI y13_ (by decide)
        have t77_ : (qI S57_75 v138_0 4).toInt = (qI S49_60 v138_0 4).toInt := congrArg Int32.toInt (f76_.kI (j := 4) k72_ (by decide) (by decide))
        have t78_ : (qI S57_75 v138_0 9).toInt = (qI S49_60 v138_0 9).toInt := congrArg Int32.toInt (f76_.kI (j := 9) k72_ (by decide) (by decide))
        have t79_ : (qI S57_75 v138_0 2).toInt = (qI S49_60 v138_0 2).toInt := congrArg Int32.toInt (f76_.kI (j := 2) k72_ (by decide) (by decide))
        have t80_ : (qN S57_75 (qO S57_75 v138_0 1) : Int) = (qN S49_60 (qO S49_60 v138_0 1) : Int) := f76_.kL (j := 1) y12_ k72_ (g.row k72_).1.2.1 (by decide) (by decide)
        have t81_ : (qN S57_75 (qO S57_75 v138_0 8) : Int) = (qN S49_60 (qO S49_60 v138_0 8) : Int) := f76_.kL (j := 8) y12_ k72_ (g.row k72_).1.2.2.2.2.2.2 (by decide) (by decide)
        have t82_ : (qN S57_75 (qO S57_75 v138_0 7) : Int) = (qN S49_60 (qO S49_60 v138_0 7) : Int) := f76_.kL (j := 7) y12_ k72_ (g.row k72_).1.2.2.2.2.2.1 (by decide) (by decide)
        have t83_ : (qN S57_75 (qO S57_75 v138_0 0) : Int) = (qN S49_60 (qO S49_60 v138_0 0) : Int) := f76_.kL (j := 0) y12_ k72_ (g.row k72_).1.1 (by decide) (by decide)
        have t84_ : (qN S57_75 (qO S57_75 v138_0 6) : Int) = (qN S49_60 (qO S49_60 v138_0 6) : Int) := f76_.kL (j := 6) y12_ k72_ (g.row k72_).1.2.2.2.2.1 (by decide) (by decide)
        have t85_ : (qN S57_75 (qO S57_75 v138_0 3) : Int) = (qN S49_60 (qO S49_60 v138_0 3) : Int) := f76_.kL (j := 3) y12_ k72_ (g.row k72_).1.2.2.1 (by decide) (by decide)
        have t86_ : (qN S57_75 (qO S57_75 v138_0 5) : Int) = (qN S49_60 (qO S49_60 v138_0 5) : Int) := f76_.kL (j := 5) y12_ k72_ (g.row k72_).1.2.2.2.1 (by decide) (by decide)
        have k87_ : qT S57_75 v138_0 = 47 := f76_.1.T k72_ (by decide)
        have g : ShC B S57_75 := ShC.ws y12_ g f76_ (by rw [eS57_75]; rfl) (by rw [eS57_75]; rfl) (by rw [eS57_75]; rfl) rfl rfl
        intro a58_88 ea58_88 
        have ga58_88 := congrArg Int32.toInt ea58_88
        unfold w_X8_remove_J232
        intro y15_ y16_
        intro a28_89 ea28_89 
        have ga28_89 := congrArg Int32.toInt ea28_89
        refine ih138 g ?_ ?_ ?_ ?_ ?_ ?_ ?_
        · have s90_ := (g.row y16_).2
          have n1_ := rgI a28_89
          have n2_ := rgI v138_4
          have n3_ := rgI v138_3
          have n4_ := rgI (qI U138 v138_0 9)
          have n5_ := rgI v138_2
          have n6_ := rgI v138_1
          have n7_ := rgI a19_17
          have n8_ := rgI (fX8_behindRemoved U138 (qI U138 (qO U138 v138_0 5) v138_4.toInt.toNat) v138_1 v138_2)
          have n9_ := rgI a27_19
          have n10_ := rgI (fX8_behindRemoved U138 (qI U138 (qO U138 v138_0 6) v138_4.toInt.toNat) v138_1 v138_2)
          have n11_ := rgI a47_58
          have n12_ := rgI (fX8_behindRemoved S37_44 (qI S37_44 (qO S37_44 v138_0 7) v138_4.toInt.toNat) v138_1 v138_2)
          have n13_ := rgI a58_88
          have n15_ := lo_1k
          have n15_ := t_addD (a := v138_3) (b := Int32.ofInt 1)
          have n16_ := rgI (v138_3 + Int32.ofInt 1)
          have n17_ := t_addD (a := v138_4) (b := Int32.ofInt 1)
          have n18_ := rgI (v138_4 + Int32.ofInt 1)
          omega
        · have s91_ := (g.row y16_).2
          have n1_ := rgI a58_88
          have n2_ := rgI v138_4
          have n3_ := rgI v138_3
          have n4_ := rgI (qI U138 v138_0 9)
          have n5_ := rgI v138_2
          have n6_ := rgI v138_1
          have n7_ := rgI a19_17
          have n8_ := rgI (fX8_behindRemoved U138 (qI U138 (qO U138 v138_0 5) v138_4.toInt.toNat) v138_1 v138_2)
          have n9_ := rgI a27_19
          have n10_ := rgI (fX8_behindRemoved U138 (qI U138 (qO U138 v138_0 6) v138_4.toInt.toNat) v138_1 v138_2)
          have n11_ := rgI a47_58
          have n12_ := rgI (fX8_behindRemoved S37_44 (qI S37_44 (qO S37_44 v138_0 7) v138_4.toInt.toNat) v138_1 v138_2)
          have n14_ := lo_1k
          have n14_ := t_addD (a := v138_3) (b := Int32.ofInt 1)
          have n15_ := rgI (v138_3 + Int32.ofInt 1)
          have n16_ := rgI a28_89
          have n17_ := t_addD (a := v138_4) (b := Int32.ofInt 1)
          have n18_ := rgI (v138_4 + Int32.ofInt 1)
          omega
        · have s92_ := (g.row y16_).2
          have n1_ := rgI a58_88
          have n2_ := rgI a28_89
          have n3_ := rgI v138_4
          have n4_ := rgI v138_3
          have n5_ := rgI (qI U138 v138_0 9)
          have n6_ := rgI v138_2
          have n7_ := rgI v138_1
          have n8_ := rgI a19_17
          have n9_ := rgI (fX8_behindRemoved U138 (qI U138 (qO U138 v138_0 5) v138_4.toInt.toNat) v138_1 v138_2)
          have n10_ := rgI a27_19
          have n11_ := rgI (fX8_behindRemoved U138 (qI U138 (qO U138 v138_0 6) v138_4.toInt.toNat) v138_1 v138_2)
          have n12_ := rgI a47_58
          have n13_ := rgI (fX8_behindRemoved S37_44 (qI S37_44 (qO S37_44 v138_0 7) v138_4.toInt.toNat) v138_1 v138_2)
          have n15_ := lo_1k
          have n15_ := t_addD (a := v138_3) (b := Int32.ofInt 1)
          have n16_ := rgI (v138_3 + Int32.ofInt 1)
          have n17_ := t_addD (a := v138_4) (b := Int32.ofInt 1)
          have n18_ := rgI (v138_4 + Int32.ofInt 1)
          omega
        · have s93_ := (g.row y16_).2
          have n1_ := rgI a58_88
          have n2_ := rgI (qI S57_75 v138_0 9)
          have n3_ := rgI v138_4
          have n4_ := rgI v138_3
          have n5_ := rgI (qI U138 v138_0 9)
          have n6_ := rgI v138_2
          have n7_ := rgI v138_1
          have n8_ := rgI a19_17
          have n9_ := rgI (fX8_behindRemoved U138 (qI U138 (qO U138 v138_0 5) v138_4.toInt.toNat) v138_1 v138_2)
          have n10_ := rgI a27_19
          have n11_ := rgI (fX8_behindRemoved U138 (qI U138 (qO U138 v138_0 6) v138_4.toInt.toNat) v138_1 v138_2)
          have n12_ := rgI a47_58
          have n13_ := rgI (fX8_behindRemoved S37_44 (qI S37_44 (qO S37_44 v138_0 7) v138_4.toInt.toNat) v138_1 v138_2)
          have n15_ := lo_1k
          have n15_ := t_addD (a := v138_3) (b := Int32.ofInt 1)
          have n16_ := rgI (v138_3 + Int32.ofInt 1)
          have n17_ := rgI a28_89
          have n18_ := t_addD (a := v138_4) (b := Int32.ofInt 1)
          have n19_ := rgI (v138_4 + Int32.ofInt 1)
          omega
        · have s94_ := (g.row y16_).2
          have n1_ := rgI v138_2
          have n2_ := rgI v138_4
          have n3_ := rgI v138_3
          have n4_ := rgI (qI U138 v138_0 9)
          have n5_ := rgI v138_1
          have n6_ := rgI a19_17
          have n7_ := rgI (fX8_behindRemoved U138 (qI U138 (qO U138 v138_0 5) v138_4.toInt.toNat) v138_1 v138_2)
          have n8_ := rgI a27_19
          have n9_ := rgI (fX8_behindRemoved U138 (qI U138 (qO U138 v138_0 6) v138_4.toInt.toNat) v138_1 v138_2)
          have n10_ := rgI a47_58
          have n11_ := rgI (fX8_behindRemoved S37_44 (qI S37_44 (qO S37_44 v138_0 7) v138_4.toInt.toNat) v138_1 v138_2)
          have n12_ := rgI a58_88
          have n14_ := lo_1k
          have n14_ := t_addD (a := v138_3) (b := Int32.ofInt 1)
          have n15_ := rgI (v138_3 + Int32.ofInt 1)
          have n16_ := rgI a28_89
          have n17_ := t_addD (a := v138_4) (b := Int32.ofInt 1)
          have n18_ := rgI (v138_4 + Int32.ofInt 1)
          omega
        · have s95_ := (g.row y16_).2
          have n1_ := rgI v138_1
          have n2_ := rgI v138_4
          have n3_ := rgI v138_3
          have n4_ := rgI (qI U138 v138_0 9)
          have n5_ := rgI v138_2
          have n6_ := rgI a19_17
          have n7_ := rgI (fX8_behindRemoved U138 (qI U138 (qO U138 v138_0 5) v138_4.toInt.toNat) v138_1 v138_2)
          have n8_ := rgI a27_19
          have n9_ := rgI (fX8_behindRemoved U138 (qI U138 (qO U138 v138_0 6) v138_4.toInt.toNat) v138_1 v138_2)
          have n10_ := rgI a47_58
          have n11_ := rgI (fX8_behindRemoved S37_44 (qI S37_44 (qO S37_44 v138_0 7) v138_4.toInt.toNat) v138_1 v138_2)
          have n12_ := rgI a58_88
          have n14_ := lo_1k
          have n14_ := t_addD (a := v138_3) (b := Int32.ofInt 1)
          have n15_ := rgI (v138_3 + Int32.ofInt 1)
          have n16_ := rgI a28_89
          have n17_ := t_addD (a := v138_4) (b := Int32.ofInt 1)
          have n18_ := rgI (v138_4 + Int32.ofInt 1)
          omega
        · have s96_ := (g.row y16_).2
          have n1_ := rgI a28_89
          have n2_ := rgI v138_4
          have n3_ := rgI v138_3
          have n4_ := rgI (qI U138 v138_0 9)
          have n5_ := rgI v138_2
          have n6_ := rgI v138_1
          have n7_ := rgI a19_17
          have n8_ := rgI (fX8_behindRemoved U138 (qI U138 (qO U138 v138_0 5) v138_4.toInt.toNat) v138_1 v138_2)
          have n9_ := rgI a27_19
          have n10_ := rgI (fX8_behindRemoved U138 (qI U138 (qO U138 v138_0 6) v138_4.toInt.toNat) v138_1 v138_2)
          have n11_ := rgI a47_58
          have n12_ := rgI (fX8_behindRemoved S37_44 (qI S37_44 (qO S37_44 v138_0 7) v138_4.toInt.toNat) v138_1 v138_2)
          have n13_ := rgI a58_88
          have n15_ := lo_1k
          have n15_ := t_addD (a := v138_3) (b := Int32.ofInt 1)
          have n16_ := rgI (v138_3 + Int32.ofInt 1)
          have n17_ := t_addD (a := v138_4) (b := Int32.ofInt 1)
          have n18_ := rgI (v138_4 + Int32.ofInt 1)
          omega
set_option maxRecDepth 100000 in
theorem sg_X8_remove_L95 {B : Nat × Nat} {k77 : MS → Nat → Int32 → Int32 → Int32 → Prop} {N77 : Nat} (hk77 : ∀ (U77 : MS) (v77_0 : Nat) (v77_1 : Int32) (v77_2 : Int32) (v77_3 : Int32), ShC B U77 → 0 ≤ v77_3.toInt → v77_2.toInt ≤ 3 → v77_1.toInt ≤ 100000 → 2147483648 - v77_3.toInt < N77 → k77 U77 v77_0 v77_1 v77_2 v77_3) : ∀ (n : Nat) {U95 : MS} {v95_0 : Nat} {v95_1 : Int32} {v95_2 : Int32} {v95_3 : Int32} {v95_4 : Int32} {v95_5 : Int32}, ShC B U95 → 0 ≤ v95_5.toInt → v95_3.toInt < 2147483647 → 2147483648 - v95_3.toInt ≤ N77 → 0 ≤ v95_3.toInt → v95_2.toInt ≤ 3 → v95_1.toInt ≤ 100000 → 2147483648 - v95_5.toInt < n → w_X8_remove_L95 (fun u => ShC B u ∧ (True)) k77 n U95 v95_0 v95_1 v95_2 v95_3 v95_4 v95_5 := by
  intro n
  induction n with
  | zero => intro U95 v95_0 v95_1 v95_2 v95_3 v95_4 v95_5 g j0_ j1_ j2_ j3_ j4_ j5_ hm_; exfalso; have := rgI v95_1; have := rgI v95_2; have := rgI v95_3; have := rgI v95_4; have := rgI v95_5; omega
  | succ n ih95 =>
    intro U95 v95_0 v95_1 v95_2 v95_3 v95_4 v95_5 g j0_ j1_ j2_ j3_ j4_ j5_ hm_
    unfold w_X8_remove_L95
    intro y17_ y18_
    refine ⟨fun c97_ => ?_, fun c97_ => ?_⟩
    · intro a64_98 ea64_98 
      have ga64_98 := congrArg Int32.toInt ea64_98
      refine hk77 _ _ _ _ _ g ?_ ?_ ?_ ?_
      · have s99_ := (g.row y18_).2
        have n1_ := rgI a64_98
        have n2_ := rgI v95_5
        have n3_ := rgI v95_3
        have n4_ := rgI v95_2
        have n5_ := rgI v95_1
        have n6_ := rgI v95_4
        have n8_ := lo_1k
        have n8_ := t_addD (a := v95_3) (b := Int32.ofInt 1)
        have n9_ := rgI (v95_3 + Int32.ofInt 1)
        omega
      · have s100_ := (g.row y18_).2
        have n1_ := rgI v95_2
        have n2_ := rgI v95_5
        have n3_ := rgI v95_3
        have n4_ := rgI v95_1
        have n5_ := rgI v95_4
        have n6_ := rgI a64_98
        have n8_ := lo_1k
        have n8_ := t_addD (a := v95_3) (b := Int32.ofInt 1)
        have n9_ := rgI (v95_3 + Int32.ofInt 1)
        omega
      · have s101_ := (g.row y18_).2
        have n1_ := rgI v95_1
        have n2_ := rgI v95_5
        have n3_ := rgI v95_3
        have n4_ := rgI v95_2
        have n5_ := rgI v95_4
        have n6_ := rgI a64_98
        have n8_ := lo_1k
        have n8_ := t_addD (a := v95_3) (b := Int32.ofInt 1)
        have n9_ := rgI (v95_3 + Int32.ofInt 1)
        omega
      · have s102_ := (g.row y18_).2
        have n1_ := rgI a64_98
        have n2_ := rgI v95_5
        have n3_ := rgI v95_3
        have n4_ := rgI v95_2
        have n5_ := rgI v95_1
        have n6_ := rgI v95_4
        have n8_ := lo_1k
        have n8_ := t_addD (a := v95_3) (b := Int32.ofInt 1)
        have n9_ := rgI (v95_3 + Int32.ofInt 1)
        omega
    · refine ⟨?_, ?_⟩
      · exact (dd_X8_targetAt y17_ g y18_)
      intro a68_103 ea68_103 
      have ga68_103 := congrArg Int32.toInt ea68_103
      refine ⟨?_, ?_⟩
      · exact dd_X8_behindRemoved
      intro a72_104 ea72_104 
      have ga72_104 := congrArg Int32.toInt ea72_104
      intro y19_
      refine ⟨_, frX8_setTarget y17_ (sgX8_setTarget y17_ g y19_), ?_⟩
      intro S74_105 q20_ y21_ y22_
      have t106_ : (qI S74_105 v95_0 4).toInt = (qI U95 v95_0 4).toInt := congrArg Int32.toInt (q20_.2.kI (j := 4) y19_ (by decide) (by decide))
      have t107_ : (qI S74_105 v95_0 9).toInt = (qI U95 v95_0 9).toInt := congrArg Int32.toInt (q20_.2.kI (j := 9) y19_ (by decide) (by decide))
      have t108_ : (qI S74_105 v95_0 2).toInt = (qI U95 v95_0 2).toInt := congrArg Int32.toInt (q20_.2.kI (j := 2) y19_ (by decide) (by decide))
      have t109_ : (qN S74_105 (qO S74_105 v95_0 1) : Int) = (qN U95 (qO U95 v95_0 1) : Int) := q20_.2.kL (j := 1) y17_ y19_ (g.row y19_).1.2.1 (by decide) (by decide)
      have t110_ : (qN S74_105 (qO S74_105 v95_0 8) : Int) = (qN U95 (qO U95 v95_0 8) : Int) := q20_.2.kL (j := 8) y17_ y19_ (g.row y19_).1.2.2.2.2.2.2 (by decide) (by decide)
      have t111_ : (qN S74_105 (qO S74_105 v95_0 7) : Int) = (qN U95 (qO U95 v95_0 7) : Int) := q20_.2.kL (j := 7) y17_ y19_ (g.row y19_).1.2.2.2.2.2.1 (by decide) (by decide)
      have t112_ : (qN S74_105 (qO S74_105 v95_0 0) : Int) = (qN U95 (qO U95 v95_0 0) : Int) := q20_.2.kL (j := 0) y17_ y19_ (g.row y19_).1.1 (by decide) (by decide)
      have t113_ : (qN S74_105 (qO S74_105 v95_0 6) : Int) = (qN U95 (qO U95 v95_0 6) : Int) := q20_.2.kL (j := 6) y17_ y19_ (g.row y19_).1.2.2.2.2.1 (by decide) (by decide)
      have t114_ : (qN S74_105 (qO S74_105 v95_0 3) : Int) = (qN U95 (qO U95 v95_0 3) : Int) := q20_.2.kL (j := 3) y17_ y19_ (g.row y19_).1.2.2.1 (by decide) (by decide)
      have t115_ : (qN S74_105 (qO S74_105 v95_0 5) : Int) = (qN U95 (qO U95 v95_0 5) : Int) := q20_.2.kL (j := 5) y17_ y19_ (g.row y19_).1.2.2.2.1 (by decide) (by decide)
      have k116_ : qT S74_105 v95_0 = 47 := q20_.2.1.T y19_ (by decide)
      have g : ShC B S74_105 := q20_.1.1
      intro a76_117 ea76_117 
      have ga76_117 := congrArg Int32.toInt ea76_117
      refine ih95 g ?_ ?_ ?_ ?_ ?_ ?_ ?_
      · have s118_ := (g.row k116_).2
        have n1_ := rgI a76_117
        have n2_ := rgI v95_5
        have n3_ := rgI v95_3
        have n4_ := rgI v95_2
        have n5_ := rgI v95_1
        have n6_ := rgI v95_4
        have n7_ := rgI a68_103
        have n8_ := rgI (fX8_targetAt U95 v95_0 v95_3 v95_5)
        have n9_ := rgI a72_104
        have n10_ := rgI (fX8_behindRemoved U95 a68_103 v95_1 v95_2)
        have n12_ := lo_1k
        have n12_ := t_addD (a := v95_5) (b := Int32.ofInt 1)
        have n13_ := rgI (v95_5 + Int32.ofInt 1)
        omega
      · have s119_ := (g.row k116_).2
        have n1_ := rgI v95_3
        have n2_ := rgI v95_5
        have n3_ := rgI v95_2
        have n4_ := rgI v95_1
        have n5_ := rgI v95_4
        have n6_ := rgI a68_103
        have n7_ := rgI (fX8_targetAt U95 v95_0 v95_3 v95_5)
        have n8_ := rgI a72_104
        have n9_ := rgI (fX8_behindRemoved U95 a68_103 v95_1 v95_2)
        have n10_ := rgI a76_117
        have n12_ := lo_1k
        have n12_ := t_addD (a := v95_5) (b := Int32.ofInt 1)
        have n13_ := rgI (v95_5 + Int32.ofInt 1)
        omega
      · have s120_ := (g.row k116_).2
        have n1_ := rgI v95_3
        have n2_ := rgI v95_5
        have n3_ := rgI v95_2
        have n4_ := rgI v95_1
        have n5_ := rgI v95_4
        have n6_ := rgI a68_103
        have n7_ := rgI (fX8_targetAt U95 v95_0 v95_3 v95_5)
        have n8_ := rgI a72_104
        have n9_ := rgI (fX8_behindRemoved U95 a68_103 v95_1 v95_2)
        have n10_ := rgI a76_117
        have n12_ := lo_1k
        have n12_ := t_addD (a := v95_5) (b := Int32.ofInt 1)
        have n13_ := rgI (v95_5 + Int32.ofInt 1)
        omega
      · have s121_ := (g.row k116_).2
        have n1_ := rgI v95_3
        have n2_ := rgI v95_5
        have n3_ := rgI v95_2
        have n4_ := rgI v95_1
        have n5_ := rgI v95_4
        have n6_ := rgI a68_103
        have n7_ := rgI (fX8_targetAt U95 v95_0 v95_3 v95_5)
        have n8_ := rgI a72_104
        have n9_ := rgI (fX8_behindRemoved U95 a68_103 v95_1 v95_2)
        have n10_ := rgI a76_117
        have n12_ := lo_1k
        have n12_ := t_addD (a := v95_5) (b := Int32.ofInt 1)
        have n13_ := rgI (v95_5 + Int32.ofInt 1)
        omega
      · have s122_ := (g.row k116_).2
        have n1_ := rgI v95_2
        have n2_ := rgI v95_5
        have n3_ := rgI v95_3
        have n4_ := rgI v95_1
        have n5_ := rgI v95_4
        have n6_ := rgI a68_103
        have n7_ := rgI (fX8_targetAt U95 v95_0 v95_3 v95_5)
        have n8_ := rgI a72_104
        have n9_ := rgI (fX8_behindRemoved U95 a68_103 v95_1 v95_2)
        have n10_ := rgI a76_117
        have n12_ := lo_1k
        have n12_ := t_addD (a := v95_5) (b := Int32.ofInt 1)
        have n13_ := rgI (v95_5 + Int32.ofInt 1)
        omega
      · have s123_ := (g.row k116_).2
        have n1_ := rgI v95_1
        have n2_ := rgI v95_5
        have n3_ := rgI v95_3
        have n4_ := rgI v95_2
        have n5_ := rgI v95_4
        have n6_ := rgI a68_103
        have n7_ := rgI (fX8_targetAt U95 v95_0 v95_3 v95_5)
        have n8_ := rgI a72_104
        have n9_ := rgI (fX8_behindRemoved U95 a68_103 v95_1 v95_2)
        have n10_ := rgI a76_117
        have n12_ := lo_1k
        have n12_ := t_addD (a := v95_5) (b := Int32.ofInt 1)
        have n13_ := rgI (v95_5 + Int32.ofInt 1)
        omega
      · have s124_ := (g.row k116_).2
        have n1_ := rgI a76_117
        have n2_ := rgI v95_5
        have n3_ := rgI v95_3
        have n4_ := rgI v95_2
        have n5_ := rgI v95_1
        have n6_ := rgI v95_4
        have n7_ := rgI a68_103
        have n8_ := rgI (fX8_targetAt U95 v95_0 v95_3 v95_5)
        have n9_ := rgI a72_104
        have n10_ := rgI (fX8_behindRemoved U95 a68_103 v95_1 v95_2)
        have n12_ := lo_1k
        have n12_ := t_addD (a := v95_5) (b := Int32.ofInt 1)
        have n13_ := rgI (v95_5 + Int32.ofInt 1)
        omega
set_option maxRecDepth 100000 in
theorem sg_X8_remove_L77 {B : Nat × Nat} : ∀ (n : Nat) {U77 : MS} {v77_0 : Nat} {v77_1 : Int32} {v77_2 : Int32} {v77_3 : Int32}, ShC B U77 → 0 ≤ v77_3.toInt → v77_2.toInt ≤ 3 → v77_1.toInt ≤ 100000 → 2147483648 - v77_3.toInt < n → w_X8_remove_L77 (fun u => ShC B u ∧ (True)) n U77 v77_0 v77_1 v77_2 v77_3 := by
  intro n
  induction n with
  | zero => intro U77 v77_0 v77_1 v77_2 v77_3 g j0_ j1_ j2_ hm_; exfalso; have := rgI v77_1; have := rgI v77_2; have := rgI v77_3; omega
  | succ n ih77 =>
    intro U77 v77_0 v77_1 v77_2 v77_3 g j0_ j1_ j2_ hm_
    unfold w_X8_remove_L77
    intro y23_ y24_
    refine ⟨fun c125_ => ?_, fun c125_ => ?_⟩
    · refine ⟨(2147483648 - (0 : Int32).toInt).toNat + 1, ?_⟩
      refine sg_X8_remove_L138  _ g ?_ ?_ ?_ ?_ ?_ ?_ ?_
      · have s126_ := (g.row y24_).2
        have n1_ := li_0k
        have n2_ := rgI v77_3
        have n3_ := rgI v77_2
        have n4_ := rgI v77_1
        have n5_ := rgI (qI U77 v77_0 2)
        omega
      · have s127_ := (g.row y24_).2
        have n1_ := li_0k
        have n2_ := rgI v77_3
        have n3_ := rgI v77_2
        have n4_ := rgI v77_1
        have n5_ := rgI (qI U77 v77_0 2)
        omega
      · have s128_ := (g.row y24_).2
        have n1_ := li_0k
        have n2_ := rgI v77_3
        have n3_ := rgI v77_2
        have n4_ := rgI v77_1
        have n5_ := rgI (qI U77 v77_0 2)
        omega
      · have s129_ := (g.row y24_).2
        have n1_ := li_0k
        have n2_ := rgI (qI U77 v77_0 9)
        have n3_ := rgI v77_3
        have n4_ := rgI v77_2
        have n5_ := rgI v77_1
        have n6_ := rgI (qI U77 v77_0 2)
        omega
      · have s130_ := (g.row y24_).2
        have n1_ := rgI v77_2
        have n2_ := rgI v77_3
        have n3_ := rgI v77_1
        have n4_ := rgI (qI U77 v77_0 2)
        omega
      · have s131_ := (g.row y24_).2
        have n1_ := rgI v77_1
        have n2_ := rgI v77_3
        have n3_ := rgI v77_2
        have n4_ := rgI (qI U77 v77_0 2)
        omega
      · have s132_ := (g.row y24_).2
        have n1_ := li_0k
        have n2_ := rgI v77_3
        have n3_ := rgI v77_2
        have n4_ := rgI v77_1
        have n5_ := rgI (qI U77 v77_0 2)
        omega
    · refine ⟨?_, ?_⟩
      · exact (dd_X8_targetCount y23_ g y24_)
      intro a62_133 ea62_133 
      have ga62_133 := congrArg Int32.toInt ea62_133
      refine ⟨(2147483648 - (0 : Int32).toInt).toNat + 1, ?_⟩
      refine sg_X8_remove_L95  (fun _ _ _ _ _ g_ i0_ i1_ i2_ hm_ => ih77 g_ i0_ i1_ i2_ hm_) _ g ?_ ?_ ?_ ?_ ?_ ?_ ?_
      · have s134_ := (g.row y24_).2
        have n1_ := li_0k
        have n2_ := rgI v77_3
        have n3_ := rgI v77_2
        have n4_ := rgI v77_1
        have n5_ := rgI (qI U77 v77_0 2)
        have n6_ := rgI a62_133
        have n7_ := rgI (fX8_targetCount U77 v77_0 v77_3)
        omega
      · have s135_ := (g.row y24_).2
        have n1_ := rgI v77_3
        have n2_ := rgI v77_2
        have n3_ := rgI v77_1
        have n4_ := rgI (qI U77 v77_0 2)
        have n5_ := rgI a62_133
        have n6_ := rgI (fX8_targetCount U77 v77_0 v77_3)
        omega
      · have s136_ := (g.row y24_).2
        have n1_ := rgI v77_3
        have n2_ := rgI v77_2
        have n3_ := rgI v77_1
        have n4_ := rgI (qI U77 v77_0 2)
        have n5_ := rgI a62_133
        have n6_ := rgI (fX8_targetCount U77 v77_0 v77_3)
        omega
      · have s137_ := (g.row y24_).2
        have n1_ := rgI v77_3
        have n2_ := rgI v77_2
        have n3_ := rgI v77_1
        have n4_ := rgI (qI U77 v77_0 2)
        have n5_ := rgI a62_133
        have n6_ := rgI (fX8_targetCount U77 v77_0 v77_3)
        omega
      · have s138_ := (g.row y24_).2
        have n1_ := rgI v77_2
        have n2_ := rgI v77_3
        have n3_ := rgI v77_1
        have n4_ := rgI (qI U77 v77_0 2)
        have n5_ := rgI a62_133
        have n6_ := rgI (fX8_targetCount U77 v77_0 v77_3)
        omega
      · have s139_ := (g.row y24_).2
        have n1_ := rgI v77_1
        have n2_ := rgI v77_3
        have n3_ := rgI v77_2
        have n4_ := rgI (qI U77 v77_0 2)
        have n5_ := rgI a62_133
        have n6_ := rgI (fX8_targetCount U77 v77_0 v77_3)
        omega
      · have s140_ := (g.row y24_).2
        have n1_ := li_0k
        have n2_ := rgI v77_3
        have n3_ := rgI v77_2
        have n4_ := rgI v77_1
        have n5_ := rgI (qI U77 v77_0 2)
        have n6_ := rgI a62_133
        have n7_ := rgI (fX8_targetCount U77 v77_0 v77_3)
        omega
set_option maxRecDepth 100000 in
theorem sg_X8_remove_L21 {B : Nat × Nat} : ∀ (n : Nat) {U21 : MS} {v21_0 : Nat} {v21_1 : Int32} {v21_2 : Int32} {v21_3 : Int32}, ShC B U21 → 0 < v21_2.toInt → v21_2.toInt ≤ 3 → v21_3.toInt ≤ 100000 → 0 ≤ v21_3.toInt → v21_2.toInt ≤ (qI U21 v21_0 2).toInt → v21_1.toInt ≤ 100000 → 2147483648 - v21_3.toInt < n → w_X8_remove_L21 (fun u => ShC B u ∧ (True)) n U21 v21_0 v21_1 v21_2 v21_3 := by
  intro n
  induction n with
  | zero => intro U21 v21_0 v21_1 v21_2 v21_3 g j0_ j1_ j2_ j3_ j4_ j5_ hm_; exfalso; have := rgI v21_1; have := rgI v21_2; have := rgI v21_3; omega
  | succ n ih21 =>
    intro U21 v21_0 v21_1 v21_2 v21_3 g j0_ j1_ j2_ j3_ j4_ j5_ hm_
    unfold w_X8_remove_L21
    intro y25_ y26_
    refine ⟨fun c141_ => ?_, fun c141_ => ?_⟩
    · intro S8_142 eS8_142 y27_ y28_
      have f143_ : cfr [] [(47, 2)] U21 S8_142 := by rw [eS8_142]; exact cfr.oI y27_ (by decide)
      have b145_ : 0 ≤ (((qI U21 v21_0 2) - v21_2)).toInt ∧ (((qI U21 v21_0 2) - v21_2)).toInt ≤ (qN U21 (qO U21 v21_0 0) : Int) := by
        have s144_ := (g.row y26_).2
        have n2_ := rgI (qI U21 v21_0 2)
        have n3_ := rgI v21_2
        have n3_ := t_subD (a := (qI U21 v21_0 2)) (b := v21_2)
        have n4_ := rgI ((qI U21 v21_0 2) - v21_2)
        have n5_ := rgI v21_3
        have n6_ := rgI v21_1
        have n7_ := t_addD (a := v21_3) (b := v21_2)
        have n8_ := rgI (v21_3 + v21_2)
        omega
      have t146_ : (qI S8_142 v21_0 4).toInt = (qI U21 v21_0 4).toInt := congrArg Int32.toInt (f143_.kI (j := 4) y26_ (by decide) (by decide))
      have t147_ : (qI S8_142 v21_0 9).toInt = (qI U21 v21_0 9).toInt := congrArg Int32.toInt (f143_.kI (j := 9) y26_ (by decide) (by decide))
      have t148_ : (qN S8_142 (qO S8_142 v21_0 1) : Int) = (qN U21 (qO U21 v21_0 1) : Int) := f143_.kL (j := 1) y25_ y26_ (g.row y26_).1.2.1 (by decide) (by decide)
      have t149_ : (qN S8_142 (qO S8_142 v21_0 8) : Int) = (qN U21 (qO U21 v21_0 8) : Int) := f143_.kL (j := 8) y25_ y26_ (g.row y26_).1.2.2.2.2.2.2 (by decide) (by decide)
      have t150_ : (qN S8_142 (qO S8_142 v21_0 7) : Int) = (qN U21 (qO U21 v21_0 7) : Int) := f143_.kL (j := 7) y25_ y26_ (g.row y26_).1.2.2.2.2.2.1 (by decide) (by decide)
      have t151_ : (qN S8_142 (qO S8_142 v21_0 0) : Int) = (qN U21 (qO U21 v21_0 0) : Int) := f143_.kL (j := 0) y25_ y26_ (g.row y26_).1.1 (by decide) (by decide)
      have t152_ : (qN S8_142 (qO S8_142 v21_0 6) : Int) = (qN U21 (qO U21 v21_0 6) : Int) := f143_.kL (j := 6) y25_ y26_ (g.row y26_).1.2.2.2.2.1 (by decide) (by decide)
      have t153_ : (qN S8_142 (qO S8_142 v21_0 3) : Int) = (qN U21 (qO U21 v21_0 3) : Int) := f143_.kL (j := 3) y25_ y26_ (g.row y26_).1.2.2.1 (by decide) (by decide)
      have t154_ : (qN S8_142 (qO S8_142 v21_0 5) : Int) = (qN U21 (qO U21 v21_0 5) : Int) := f143_.kL (j := 5) y25_ y26_ (g.row y26_).1.2.2.2.1 (by decide) (by decide)
      have k155_ : qT S8_142 v21_0 = 47 := f143_.1.T y26_ (by decide)
      have t156_ : (qI S8_142 v21_0 2).toInt = ((qI U21 v21_0 2) - v21_2).toInt := by rw [eS8_142, qI_wI, if_pos ⟨rfl, rfl⟩]
      have g : ShC B S8_142 := by rw [eS8_142]; exact ShC.cnt y25_ g y27_ (Or.inl ⟨rfl, b145_⟩)
      refine ⟨(2147483648 - (0 : Int32).toInt).toNat + 1, ?_⟩
      refine sg_X8_remove_L77  _ g ?_ ?_ ?_ ?_
      · have s157_ := (g.row k155_).2
        have n1_ := li_0k
        have n2_ := rgI v21_2
        have n3_ := rgI v21_3
        have n4_ := rgI (qI U21 v21_0 2)
        have n5_ := rgI v21_1
        have n6_ := t_addD (a := v21_3) (b := v21_2)
        have n7_ := rgI (v21_3 + v21_2)
        have n8_ := rgI (qI S8_142 v21_0 2)
        have n9_ := t_subD (a := (qI U21 v21_0 2)) (b := v21_2)
        have n10_ := rgI ((qI U21 v21_0 2) - v21_2)
        omega
      · have s158_ := (g.row k155_).2
        have n1_ := rgI v21_2
        have n2_ := rgI v21_3
        have n3_ := rgI (qI U21 v21_0 2)
        have n4_ := rgI v21_1
        have n5_ := t_addD (a := v21_3) (b := v21_2)
        have n6_ := rgI (v21_3 + v21_2)
        have n7_ := rgI (qI S8_142 v21_0 2)
        have n8_ := t_subD (a := (qI U21 v21_0 2)) (b := v21_2)
        have n9_ := rgI ((qI U21 v21_0 2) - v21_2)
        omega
      · have s159_ := (g.row k155_).2
        have n1_ := rgI v21_1
        have n2_ := rgI v21_2
        have n3_ := rgI v21_3
        have n4_ := rgI (qI U21 v21_0 2)
        have n5_ := t_addD (a := v21_3) (b := v21_2)
        have n6_ := rgI (v21_3 + v21_2)
        have n7_ := rgI (qI S8_142 v21_0 2)
        have n8_ := t_subD (a := (qI U21 v21_0 2)) (b := v21_2)
        have n9_ := rgI ((qI U21 v21_0 2) - v21_2)
        omega
      · have s160_ := (g.row k155_).2
        have n1_ := li_0k
        have n2_ := rgI v21_2
        have n3_ := rgI v21_3
        have n4_ := rgI (qI U21 v21_0 2)
        have n5_ := rgI v21_1
        have n6_ := t_addD (a := v21_3) (b := v21_2)
        have n7_ := rgI (v21_3 + v21_2)
        have n8_ := rgI (qI S8_142 v21_0 2)
        have n9_ := t_subD (a := (qI U21 v21_0 2)) (b := v21_2)
        have n10_ := rgI ((qI U21 v21_0 2) - v21_2)
        omega
    · refine ⟨?_, ?_⟩
      · exact (g.row y26_).1.1
      refine ⟨?_, ?_⟩
      · exact (g.row y26_).1.1
      refine ⟨?_, ?_⟩
      · have s161_ := (g.row y26_).2
        have n2_ := rgI v21_3
        have n3_ := rgI v21_2
        have n3_ := t_addD (a := v21_3) (b := v21_2)
        have n4_ := rgI (v21_3 + v21_2)
        have n5_ := rgI (qI U21 v21_0 2)
        have n6_ := rgI v21_1
        omega
      refine ⟨?_, ?_⟩
      · have s162_ := (g.row y26_).2
        have n1_ := rgI v21_3
        have n2_ := rgI v21_2
        have n3_ := rgI (qI U21 v21_0 2)
        have n4_ := rgI v21_1
        have n5_ := t_addD (a := v21_3) (b := v21_2)
        have n6_ := rgI (v21_3 + v21_2)
        omega
      intro S85_163 eS85_163 y29_ y30_
      have f164_ : cfr [222] [] U21 S85_163 := by rw [eS85_163]; exact cfr.aI y29_ (by decide)
      have t165_ : (qI S85_163 v21_0 4).toInt = (qI U21 v21_0 4).toInt := congrArg Int32.toInt (f164_.kI (j := 4) y26_ (by decide) (by decide))
      have t166_ : (qI S85_163 v21_0 9).toInt = (qI U21 v21_0 9).toInt := congrArg Int32.toInt (f164_.kI (j := 9) y26_ (by decide) (by decide))
      have t167_ : (qI S85_163 v21_0 2).toInt = (qI U21 v21_0 2).toInt := congrArg Int32.toInt (f164_.kI (j := 2) y26_ (by decide) (by decide))
      have t168_ : (qN S85_163 (qO S85_163 v21_0 1) : Int) = (qN U21 (qO U21 v21_0 1) : Int) := f164_.kL (j := 1) y25_ y26_ (g.row y26_).1.2.1 (by decide) (by decide)
      have t169_ : (qN S85_163 (qO S85_163 v21_0 8) : Int) = (qN U21 (qO U21 v21_0 8) : Int) := f164_.kL (j := 8) y25_ y26_ (g.row y26_).1.2.2.2.2.2.2 (by decide) (by decide)
      have t170_ : (qN S85_163 (qO S85_163 v21_0 7) : Int) = (qN U21 (qO U21 v21_0 7) : Int) := f164_.kL (j := 7) y25_ y26_ (g.row y26_).1.2.2.2.2.2.1 (by decide) (by decide)
      have t171_ : (qN S85_163 (qO S85_163 v21_0 0) : Int) = (qN U21 (qO U21 v21_0 0) : Int) := f164_.kL (j := 0) y25_ y26_ (g.row y26_).1.1 (by decide) (by decide)
      have t172_ : (qN S85_163 (qO S85_163 v21_0 6) : Int) = (qN U21 (qO U21 v21_0 6) : Int) := f164_.kL (j := 6) y25_ y26_ (g.row y26_).1.2.2.2.2.1 (by decide) (by decide)
      have t173_ : (qN S85_163 (qO S85_163 v21_0 3) : Int) = (qN U21 (qO U21 v21_0 3) : Int) := f164_.kL (j := 3) y25_ y26_ (g.row y26_).1.2.2.1 (by decide) (by decide)
      have t174_ : (qN S85_163 (qO S85_163 v21_0 5) : Int) = (qN U21 (qO U21 v21_0 5) : Int) := f164_.kL (j := 5) y25_ y26_ (g.row y26_).1.2.2.2.1 (by decide) (by decide)
      have k175_ : qT S85_163 v21_0 = 47 := f164_.1.T y26_ (by decide)
      have g : ShC B S85_163 := ShC.ws y25_ g f164_ (by rw [eS85_163]; rfl) (by rw [eS85_163]; rfl) (by rw [eS85_163]; rfl) rfl rfl
      refine ⟨?_, ?_⟩
      · exact (g.row k175_).1.2.1
      refine ⟨?_, ?_⟩
      · exact (g.row k175_).1.2.1
      refine ⟨?_, ?_⟩
      · have s176_ := (g.row k175_).2
        have n2_ := rgI v21_3
        have n3_ := rgI v21_2
        have n3_ := t_addD (a := v21_3) (b := v21_2)
        have n4_ := rgI (v21_3 + v21_2)
        have n5_ := rgI (qI U21 v21_0 2)
        have n6_ := rgI v21_1
        omega
      refine ⟨?_, ?_⟩
      · have s177_ := (g.row k175_).2
        have n1_ := rgI v21_3
        have n2_ := rgI v21_2
        have n3_ := rgI (qI U21 v21_0 2)
        have n4_ := rgI v21_1
        have n5_ := t_addD (a := v21_3) (b := v21_2)
        have n6_ := rgI (v21_3 + v21_2)
        omega
      intro S94_178 eS94_178 y31_ y32_
      have f179_ : cfr [406] [] S85_163 S94_178 := by rw [eS94_178]; exact cfr.aJ y31_ (by decide)
      have t180_ : (qI S94_178 v21_0 4).toInt = (qI S85_163 v21_0 4).toInt := congrArg Int32.toInt (f179_.kI (j := 4) k175_ (by decide) (by decide))
      have t181_ : (qI S94_178 v21_0 9).toInt = (qI S85_163 v21_0 9).toInt := congrArg Int32.toInt (f179_.kI (j := 9) k175_ (by decide) (by decide))
      have t182_ : (qI S94_178 v21_0 2).toInt = (qI S85_163 v21_0 2).toInt := congrArg Int32.toInt (f179_.kI (j := 2) k175_ (by decide) (by decide))
      have t183_ : (qN S94_178 (qO S94_178 v21_0 1) : Int) = (qN S85_163 (qO S85_163 v21_0 1) : Int) := f179_.kL (j := 1) y30_ k175_ (g.row k175_).1.2.1 (by decide) (by decide)
      have t184_ : (qN S94_178 (qO S94_178 v21_0 8) : Int) = (qN S85_163 (qO S85_163 v21_0 8) : Int) := f179_.kL (j := 8) y30_ k175_ (g.row k175_).1.2.2.2.2.2.2 (by decide) (by decide)
      have t185_ : (qN S94_178 (qO S94_178 v21_0 7) : Int) = (qN S85_163 (qO S85_163 v21_0 7) : Int) := f179_.kL (j := 7) y30_ k175_ (g.row k175_).1.2.2.2.2.2.1 (by decide) (by decide)
      have t186_ : (qN S94_178 (qO S94_178 v21_0 0) : Int) = (qN S85_163 (qO S85_163 v21_0 0) : Int) := f179_.kL (j := 0) y30_ k175_ (g.row k175_).1.1 (by decide) (by decide)
      have t187_ : (qN S94_178 (qO S94_178 v21_0 6) : Int) = (qN S85_163 (qO S85_163 v21_0 6) : Int) := f179_.kL (j := 6) y30_ k175_ (g.row k175_).1.2.2.2.2.1 (by decide) (by decide)
      have t188_ : (qN S94_178 (qO S94_178 v21_0 3) : Int) = (qN S85_163 (qO S85_163 v21_0 3) : Int) := f179_.kL (j := 3) y30_ k175_ (g.row k175_).1.2.2.1 (by decide) (by decide)
      have t189_ : (qN S94_178 (qO S94_178 v21_0 5) : Int) = (qN S85_163 (qO S85_163 v21_0 5) : Int) := f179_.kL (j := 5) y30_ k175_ (g.row k175_).1.2.2.2.1 (by decide) (by decide)
      have k190_ : qT S94_178 v21_0 = 47 := f179_.1.T k175_ (by decide)
      have g : ShC B S94_178 := ShC.ws y30_ g f179_ (by rw [eS94_178]; rfl) (by rw [eS94_178]; rfl) (by rw [eS94_178]; rfl) rfl rfl
      intro a95_191 ea95_191 
      have ga95_191 := congrArg Int32.toInt ea95_191
      refine ih21 g ?_ ?_ ?_ ?_ ?_ ?_ ?_
      · have s192_ := (g.row k190_).2
        have n1_ := rgI v21_2
        have n2_ := rgI v21_3
        have n3_ := rgI (qI U21 v21_0 2)
        have n4_ := rgI v21_1
        have n5_ := t_addD (a := v21_3) (b := v21_2)
        have n6_ := rgI (v21_3 + v21_2)
        have n7_ := rgI a95_191
        have n9_ := lo_1k
        have n9_ := t_addD (a := v21_3) (b := Int32.ofInt 1)
        have n10_ := rgI (v21_3 + Int32.ofInt 1)
        omega
      · have s193_ := (g.row k190_).2
        have n1_ := rgI v21_2
        have n2_ := rgI v21_3
        have n3_ := rgI (qI U21 v21_0 2)
        have n4_ := rgI v21_1
        have n5_ := t_addD (a := v21_3) (b := v21_2)
        have n6_ := rgI (v21_3 + v21_2)
        have n7_ := rgI a95_191
        have n9_ := lo_1k
        have n9_ := t_addD (a := v21_3) (b := Int32.ofInt 1)
        have n10_ := rgI (v21_3 + Int32.ofInt 1)
        omega
      · have s194_ := (g.row k190_).2
        have n1_ := rgI a95_191
        have n2_ := rgI v21_2
        have n3_ := rgI v21_3
        have n4_ := rgI (qI U21 v21_0 2)
        have n5_ := rgI v21_1
        have n6_ := t_addD (a := v21_3) (b := v21_2)
        have n7_ := rgI (v21_3 + v21_2)
        have n9_ := lo_1k
        have n9_ := t_addD (a := v21_3) (b := Int32.ofInt 1)
        have n10_ := rgI (v21_3 + Int32.ofInt 1)
        omega
      · have s195_ := (g.row k190_).2
        have n1_ := rgI a95_191
        have n2_ := rgI v21_2
        have n3_ := rgI v21_3
        have n4_ := rgI (qI U21 v21_0 2)
        have n5_ := rgI v21_1
        have n6_ := t_addD (a := v21_3) (b := v21_2)
        have n7_ := rgI (v21_3 + v21_2)
        have n9_ := lo_1k
        have n9_ := t_addD (a := v21_3) (b := Int32.ofInt 1)
        have n10_ := rgI (v21_3 + Int32.ofInt 1)
        omega
      · have s196_ := (g.row k190_).2
        have n1_ := rgI v21_2
        have n2_ := rgI (qI S94_178 v21_0 2)
        have n3_ := rgI v21_3
        have n4_ := rgI (qI U21 v21_0 2)
        have n5_ := rgI v21_1
        have n6_ := t_addD (a := v21_3) (b := v21_2)
        have n7_ := rgI (v21_3 + v21_2)
        have n8_ := rgI a95_191
        have n10_ := lo_1k
        have n10_ := t_addD (a := v21_3) (b := Int32.ofInt 1)
        have n11_ := rgI (v21_3 + Int32.ofInt 1)
        omega
      · have s197_ := (g.row k190_).2
        have n1_ := rgI v21_1
        have n2_ := rgI v21_2
        have n3_ := rgI v21_3
        have n4_ := rgI (qI U21 v21_0 2)
        have n5_ := t_addD (a := v21_3) (b := v21_2)
        have n6_ := rgI (v21_3 + v21_2)
        have n7_ := rgI a95_191
        have n9_ := lo_1k
        have n9_ := t_addD (a := v21_3) (b := Int32.ofInt 1)
        have n10_ := rgI (v21_3 + Int32.ofInt 1)
        omega
      · have s198_ := (g.row k190_).2
        have n1_ := rgI a95_191
        have n2_ := rgI v21_2
        have n3_ := rgI v21_3
        have n4_ := rgI (qI U21 v21_0 2)
        have n5_ := rgI v21_1
        have n6_ := t_addD (a := v21_3) (b := v21_2)
        have n7_ := rgI (v21_3 + v21_2)
        have n9_ := lo_1k
        have n9_ := t_addD (a := v21_3) (b := Int32.ofInt 1)
        have n10_ := rgI (v21_3 + Int32.ofInt 1)
        omega
set_option maxRecDepth 100000 in
theorem sgX8_remove {B : Nat × Nat} {S : MS} {p0 : Nat} {x1 : Int32} {x2 : Int32} (hw : wfC S) (g : ShC B S) (k_p0 : qT S p0 = 47) (a0_ : x2.toInt ≤ 3) (a1_ : x1.toInt ≤ 100000) : wX8_remove S p0 x1 x2 (fun u => ShC B u ∧ (True)) := by
  unfold wX8_remove
  refine ⟨fun c199_ => ?_, fun c199_ => ?_⟩
  · exact ⟨g, trivial⟩
  · refine ⟨fun c200_ => ?_, fun c200_ => ?_⟩
    · exact ⟨g, trivial⟩
    · refine ⟨fun c201_ => ?_, fun c201_ => ?_⟩
      · refine ⟨(2147483648 - x1.toInt).toNat + 1, ?_⟩
        refine sg_X8_remove_L21  _ g ?_ ?_ ?_ ?_ ?_ ?_ ?_
        · have s202_ := (g.row k_p0).2
          have n1_ := rgI x2
          have n2_ := rgI x1
          have n3_ := t_addD (a := x1) (b := x2)
          have n4_ := rgI (x1 + x2)
          have n5_ := rgI (qI S p0 2)
          omega
        · have s203_ := (g.row k_p0).2
          have n1_ := rgI x2
          have n2_ := rgI x1
          have n3_ := t_addD (a := x1) (b := x2)
          have n4_ := rgI (x1 + x2)
          have n5_ := rgI (qI S p0 2)
          omega
        · have s204_ := (g.row k_p0).2
          have n1_ := rgI x1
          have n2_ := rgI x2
          have n3_ := t_addD (a := x1) (b := x2)
          have n4_ := rgI (x1 + x2)
          have n5_ := rgI (qI S p0 2)
          omega
        · have s205_ := (g.row k_p0).2
          have n1_ := rgI x1
          have n2_ := rgI x2
          have n3_ := t_addD (a := x1) (b := x2)
          have n4_ := rgI (x1 + x2)
          have n5_ := rgI (qI S p0 2)
          omega
        · have s206_ := (g.row k_p0).2
          have n1_ := rgI x2
          have n2_ := rgI (qI S p0 2)
          have n3_ := rgI x1
          have n4_ := t_addD (a := x1) (b := x2)
          have n5_ := rgI (x1 + x2)
          omega
        · have s207_ := (g.row k_p0).2
          have n1_ := rgI x1
          have n2_ := rgI x2
          have n3_ := t_addD (a := x1) (b := x2)
          have n4_ := rgI (x1 + x2)
          have n5_ := rgI (qI S p0 2)
          omega
        · have s208_ := (g.row k_p0).2
          have n1_ := rgI x1
          have n2_ := rgI x2
          have n3_ := t_addD (a := x1) (b := x2)
          have n4_ := rgI (x1 + x2)
          have n5_ := rgI (qI S p0 2)
          omega
      · exact ⟨g, trivial⟩
