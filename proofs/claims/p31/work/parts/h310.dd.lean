/-! domains of what the readers read -/
theorem t_addD {a b : Int32} : (a + b).toInt = a.toInt + b.toInt ∨ 2147483647 < a.toInt + b.toInt ∨ a.toInt + b.toInt < -2147483648 := by
  by_cases h : -2147483648 ≤ a.toInt + b.toInt ∧ a.toInt + b.toInt ≤ 2147483647
  · exact Or.inl (t_addk h)
  · omega
theorem t_subD {a b : Int32} : (a - b).toInt = a.toInt - b.toInt ∨ 2147483647 < a.toInt - b.toInt ∨ a.toInt - b.toInt < -2147483648 := by
  by_cases h : -2147483648 ≤ a.toInt - b.toInt ∧ a.toInt - b.toInt ≤ 2147483647
  · exact Or.inl (t_subk h)
  · omega
theorem rgI (a : Int32) : -2147483648 ≤ a.toInt ∧ a.toInt ≤ 2147483647 := ⟨Int32.le_toInt a, by have := Int32.toInt_lt a; omega⟩
set_option maxRecDepth 100000 in
theorem dd_X2_numbersOf {S : MS} {x0 : Int32} : d_X2_numbersOf S x0 := by
  unfold d_X2_numbersOf
  exact trivial
set_option maxRecDepth 100000 in
theorem dd_X6_isJump_J28 {S : MS} : d_X6_isJump_J28 S := by
  unfold d_X6_isJump_J28
  exact trivial
set_option maxRecDepth 100000 in
theorem dd_X6_isJump_J14 {S : MS} {v14_0 : Int32} : d_X6_isJump_J14 S v14_0 := by
  unfold d_X6_isJump_J14
  by_cases c0_ : v14_0.toInt = 198
  · rw [if_pos c0_]
    exact dd_X6_isJump_J28
  · rw [if_neg c0_]
    by_cases c1_ : v14_0.toInt = 199
    · rw [if_pos c1_]
      exact dd_X6_isJump_J28
    · rw [if_neg c1_]
      exact trivial
set_option maxRecDepth 100000 in
theorem dd_X6_isJump {S : MS} {x0 : Int32} : d_X6_isJump S x0 := by
  unfold d_X6_isJump
  by_cases c0_ : x0.toInt < 153
  · rw [if_pos c0_]
    exact dd_X6_isJump_J14
  · rw [if_neg c0_]
    by_cases c1_ : x0.toInt ≤ 167
    · rw [if_pos c1_]
      exact dd_X6_isJump_J28
    · rw [if_neg c1_]
      exact dd_X6_isJump_J14
set_option maxRecDepth 100000 in
theorem dd_X6_isSwitch_J14 {S : MS} : d_X6_isSwitch_J14 S := by
  unfold d_X6_isSwitch_J14
  exact trivial
set_option maxRecDepth 100000 in
theorem dd_X6_isSwitch {S : MS} {x0 : Int32} : d_X6_isSwitch S x0 := by
  unfold d_X6_isSwitch
  by_cases c0_ : x0.toInt = 170
  · rw [if_pos c0_]
    exact dd_X6_isSwitch_J14
  · rw [if_neg c0_]
    by_cases c1_ : x0.toInt = 171
    · rw [if_pos c1_]
      exact dd_X6_isSwitch_J14
    · rw [if_neg c1_]
      exact trivial
set_option maxRecDepth 100000 in
theorem dd_X6_goesOn_J32 {S : MS} : d_X6_goesOn_J32 S := by
  unfold d_X6_goesOn_J32
  exact trivial
set_option maxRecDepth 100000 in
theorem dd_X6_goesOn_J28 {S : MS} : d_X6_goesOn_J28 S := by
  unfold d_X6_goesOn_J28
  exact trivial
set_option maxRecDepth 100000 in
theorem dd_X6_goesOn {S : MS} {x0 : Int32} : d_X6_goesOn S x0 := by
  unfold d_X6_goesOn
  by_cases c0_ : x0.toInt = 167
  · rw [if_pos c0_]
    exact dd_X6_goesOn_J32
  · rw [if_neg c0_]
    by_cases c1_ : x0.toInt = 191
    · rw [if_pos c1_]
      exact dd_X6_goesOn_J32
    · rw [if_neg c1_]
      by_cases c2_ : x0.toInt < 170
      · rw [if_pos c2_]
        exact dd_X6_goesOn_J28
      · rw [if_neg c2_]
        by_cases c3_ : x0.toInt ≤ 177
        · rw [if_pos c3_]
          exact dd_X6_goesOn_J32
        · rw [if_neg c3_]
          exact dd_X6_goesOn_J28
set_option maxRecDepth 100000 in
theorem dd_X6_isLoad_J18 {S : MS} : d_X6_isLoad_J18 S := by
  unfold d_X6_isLoad_J18
  exact trivial
set_option maxRecDepth 100000 in
theorem dd_X6_isLoad {S : MS} {x0 : Int32} : d_X6_isLoad S x0 := by
  unfold d_X6_isLoad
  by_cases c0_ : x0.toInt = 21
  · rw [if_pos c0_]
    exact dd_X6_isLoad_J18
  · rw [if_neg c0_]
    by_cases c1_ : x0.toInt = 22
    · rw [if_pos c1_]
      exact dd_X6_isLoad_J18
    · rw [if_neg c1_]
      by_cases c2_ : x0.toInt = 25
      · rw [if_pos c2_]
        exact dd_X6_isLoad_J18
      · rw [if_neg c2_]
        exact trivial
set_option maxRecDepth 100000 in
theorem dd_X6_isStore_J18 {S : MS} : d_X6_isStore_J18 S := by
  unfold d_X6_isStore_J18
  exact trivial
set_option maxRecDepth 100000 in
theorem dd_X6_isStore {S : MS} {x0 : Int32} : d_X6_isStore S x0 := by
  unfold d_X6_isStore
  by_cases c0_ : x0.toInt = 54
  · rw [if_pos c0_]
    exact dd_X6_isStore_J18
  · rw [if_neg c0_]
    by_cases c1_ : x0.toInt = 55
    · rw [if_pos c1_]
      exact dd_X6_isStore_J18
    · rw [if_neg c1_]
      by_cases c2_ : x0.toInt = 58
      · rw [if_pos c2_]
        exact dd_X6_isStore_J18
      · rw [if_neg c2_]
        exact trivial
set_option maxRecDepth 100000 in
theorem dd_X6_usesLocal_J21 {S : MS} : d_X6_usesLocal_J21 S := by
  unfold d_X6_usesLocal_J21
  exact trivial
set_option maxRecDepth 100000 in
theorem dd_X6_usesLocal {S : MS} {x0 : Int32} : d_X6_usesLocal S x0 := by
  unfold d_X6_usesLocal
  refine ⟨?_, ?_⟩
  · exact dd_X6_isLoad
  by_cases c0_ : (fX6_isLoad S x0).toInt = 0
  · rw [if_pos c0_]
    refine ⟨?_, ?_⟩
    · exact dd_X6_isStore
    by_cases c1_ : (fX6_isStore S x0).toInt = 0
    · rw [if_pos c1_]
      by_cases c2_ : x0.toInt = 132
      · rw [if_pos c2_]
        exact dd_X6_usesLocal_J21
      · rw [if_neg c2_]
        exact trivial
    · rw [if_neg c1_]
      exact dd_X6_usesLocal_J21
  · rw [if_neg c0_]
    exact dd_X6_usesLocal_J21
set_option maxRecDepth 100000 in
theorem dd_X6_localWidth_J12 {S : MS} : d_X6_localWidth_J12 S := by
  unfold d_X6_localWidth_J12
  exact trivial
set_option maxRecDepth 100000 in
theorem dd_X6_localWidth {S : MS} {x0 : Int32} : d_X6_localWidth S x0 := by
  unfold d_X6_localWidth
  by_cases c0_ : x0.toInt = 22
  · rw [if_pos c0_]
    exact dd_X6_localWidth_J12
  · rw [if_neg c0_]
    by_cases c1_ : x0.toInt = 55
    · rw [if_pos c1_]
      exact dd_X6_localWidth_J12
    · rw [if_neg c1_]
      exact trivial
set_option maxRecDepth 100000 in
theorem dd_X6_isShift_J16 {S : MS} : d_X6_isShift_J16 S := by
  unfold d_X6_isShift_J16
  exact trivial
set_option maxRecDepth 100000 in
theorem dd_X6_isShift {S : MS} {x0 : Int32} : d_X6_isShift S x0 := by
  unfold d_X6_isShift
  by_cases c0_ : x0.toInt < 120
  · rw [if_pos c0_]
    exact dd_X6_isShift_J16
  · rw [if_neg c0_]
    by_cases c1_ : 125 < x0.toInt
    · rw [if_pos c1_]
      exact dd_X6_isShift_J16
    · rw [if_neg c1_]
      exact trivial
set_option maxRecDepth 100000 in
theorem dd_X6_isDivision_J24 {S : MS} : d_X6_isDivision_J24 S := by
  unfold d_X6_isDivision_J24
  exact trivial
set_option maxRecDepth 100000 in
theorem dd_X6_isDivision {S : MS} {x0 : Int32} : d_X6_isDivision S x0 := by
  unfold d_X6_isDivision
  by_cases c0_ : x0.toInt = 108
  · rw [if_pos c0_]
    exact dd_X6_isDivision_J24
  · rw [if_neg c0_]
    by_cases c1_ : x0.toInt = 109
    · rw [if_pos c1_]
      exact dd_X6_isDivision_J24
    · rw [if_neg c1_]
      by_cases c2_ : x0.toInt = 112
      · rw [if_pos c2_]
        exact dd_X6_isDivision_J24
      · rw [if_neg c2_]
        by_cases c3_ : x0.toInt = 113
        · rw [if_pos c3_]
          exact dd_X6_isDivision_J24
        · rw [if_neg c3_]
          exact trivial
set_option maxRecDepth 100000 in
theorem dd_X6_isBinary_J38 {S : MS} : d_X6_isBinary_J38 S := by
  unfold d_X6_isBinary_J38
  exact trivial
set_option maxRecDepth 100000 in
theorem dd_X6_isBinary_J31 {S : MS} {v31_0 : Int32} : d_X6_isBinary_J31 S v31_0 := by
  unfold d_X6_isBinary_J31
  by_cases c0_ : v31_0.toInt = 148
  · rw [if_pos c0_]
    exact dd_X6_isBinary_J38
  · rw [if_neg c0_]
    exact trivial
set_option maxRecDepth 100000 in
theorem dd_X6_isBinary_J18 {S : MS} {v18_0 : Int32} : d_X6_isBinary_J18 S v18_0 := by
  unfold d_X6_isBinary_J18
  by_cases c0_ : v18_0.toInt < 120
  · rw [if_pos c0_]
    exact dd_X6_isBinary_J31
  · rw [if_neg c0_]
    by_cases c1_ : v18_0.toInt ≤ 131
    · rw [if_pos c1_]
      exact dd_X6_isBinary_J38
    · rw [if_neg c1_]
      exact dd_X6_isBinary_J31
set_option maxRecDepth 100000 in
theorem dd_X6_isBinary {S : MS} {x0 : Int32} : d_X6_isBinary S x0 := by
  unfold d_X6_isBinary
  by_cases c0_ : x0.toInt < 96
  · rw [if_pos c0_]
    exact dd_X6_isBinary_J18
  · rw [if_neg c0_]
    by_cases c1_ : 113 < x0.toInt
    · rw [if_pos c1_]
      exact dd_X6_isBinary_J18
    · rw [if_neg c1_]
      by_cases c2_ : (x0 &&& (2 : Int32)).toInt = 0
      · rw [if_pos c2_]
        exact dd_X6_isBinary_J38
      · rw [if_neg c2_]
        exact dd_X6_isBinary_J18
set_option maxRecDepth 100000 in
theorem dd_X6_isUnary_J40 {S : MS} : d_X6_isUnary_J40 S := by
  unfold d_X6_isUnary_J40
  exact trivial
set_option maxRecDepth 100000 in
theorem dd_X6_isUnary_J44 {S : MS} : d_X6_isUnary_J44 S := by
  unfold d_X6_isUnary_J44
  exact trivial
set_option maxRecDepth 100000 in
theorem dd_X6_isUnary {S : MS} {x0 : Int32} : d_X6_isUnary S x0 := by
  unfold d_X6_isUnary
  by_cases c0_ : x0.toInt = 116
  · rw [if_pos c0_]
    exact dd_X6_isUnary_J40
  · rw [if_neg c0_]
    by_cases c1_ : x0.toInt = 117
    · rw [if_pos c1_]
      exact dd_X6_isUnary_J40
    · rw [if_neg c1_]
      by_cases c2_ : x0.toInt = 133
      · rw [if_pos c2_]
        exact dd_X6_isUnary_J40
      · rw [if_neg c2_]
        by_cases c3_ : x0.toInt = 136
        · rw [if_pos c3_]
          exact dd_X6_isUnary_J40
        · rw [if_neg c3_]
          by_cases c4_ : x0.toInt < 145
          · rw [if_pos c4_]
            exact dd_X6_isUnary_J44
          · rw [if_neg c4_]
            by_cases c5_ : 147 < x0.toInt
            · rw [if_pos c5_]
              exact dd_X6_isUnary_J44
            · rw [if_neg c5_]
              exact dd_X6_isUnary_J40
set_option maxRecDepth 100000 in
theorem dd_X6_lengthOf_J12 {S : MS} : d_X6_lengthOf_J12 S := by
  unfold d_X6_lengthOf_J12
  exact trivial
set_option maxRecDepth 100000 in
theorem dd_X6_lengthOf {S : MS} {x0 : Int32} : d_X6_lengthOf S x0 := by
  unfold d_X6_lengthOf
  by_cases c0_ : x0.toInt < 0
  · rw [if_pos c0_]
    exact dd_X6_lengthOf_J12
  · rw [if_neg c0_]
    by_cases c1_ : x0.toInt < 202
    · rw [if_pos c1_]
      refine ⟨?_, ?_⟩
      · have n1_ := rgI x0
        omega
      exact trivial
    · rw [if_neg c1_]
      exact dd_X6_lengthOf_J12
set_option maxRecDepth 100000 in
theorem dd_X6_takes_J12 {S : MS} : d_X6_takes_J12 S := by
  unfold d_X6_takes_J12
  exact trivial
set_option maxRecDepth 100000 in
theorem dd_X6_takes {S : MS} {x0 : Int32} : d_X6_takes S x0 := by
  unfold d_X6_takes
  by_cases c0_ : x0.toInt < 0
  · rw [if_pos c0_]
    exact dd_X6_takes_J12
  · rw [if_neg c0_]
    by_cases c1_ : x0.toInt < 202
    · rw [if_pos c1_]
      refine ⟨?_, ?_⟩
      · have n1_ := rgI x0
        omega
      exact trivial
    · rw [if_neg c1_]
      exact dd_X6_takes_J12
set_option maxRecDepth 100000 in
theorem dd_X6_gives_J12 {S : MS} : d_X6_gives_J12 S := by
  unfold d_X6_gives_J12
  exact trivial
set_option maxRecDepth 100000 in
theorem dd_X6_gives {S : MS} {x0 : Int32} : d_X6_gives S x0 := by
  unfold d_X6_gives
  by_cases c0_ : x0.toInt < 0
  · rw [if_pos c0_]
    exact dd_X6_gives_J12
  · rw [if_neg c0_]
    by_cases c1_ : x0.toInt < 202
    · rw [if_pos c1_]
      refine ⟨?_, ?_⟩
      · have n1_ := rgI x0
        omega
      exact trivial
    · rw [if_neg c1_]
      exact dd_X6_gives_J12
set_option maxRecDepth 100000 in
theorem dd_X7_u1_J21 {S : MS} : d_X7_u1_J21 S := by
  unfold d_X7_u1_J21
  exact trivial
set_option maxRecDepth 100000 in
theorem dd_X7_u1 {S : MS} {x1 : Int32} : d_X7_u1 S x1 := by
  unfold d_X7_u1
  by_cases c0_ : x1.toInt < 0
  · rw [if_pos c0_]
    exact dd_X7_u1_J21
  · rw [if_neg c0_]
    by_cases c1_ : (qI S 9 1).toInt ≤ x1.toInt
    · rw [if_pos c1_]
      exact dd_X7_u1_J21
    · rw [if_neg c1_]
      by_cases c2_ : x1.toInt < (qN S (qO S 9 0) : Int)
      · rw [if_pos c2_]
        refine ⟨?_, ?_⟩
        · have n1_ := rgI x1
          have n2_ := rgI (qI S 9 1)
          omega
        exact trivial
      · rw [if_neg c2_]
        exact dd_X7_u1_J21
set_option maxRecDepth 100000 in
theorem dd_X7_u2 {S : MS} {x1 : Int32} (h9 : 0 ≤ (qI S 9 1).toInt) : d_X7_u2 S x1 := by
  unfold d_X7_u2
  by_cases c0_ : x1.toInt < 0
  · rw [if_pos c0_]
    exact trivial
  · rw [if_neg c0_]
    by_cases c1_ : ((qI S 9 1) - (2 : Int32)).toInt < x1.toInt
    · rw [if_pos c1_]
      exact trivial
    · rw [if_neg c1_]
      by_cases c2_ : (qI S 9 1).toInt ≤ (qN S (qO S 9 0) : Int)
      · rw [if_pos c2_]
        refine ⟨?_, ?_⟩
        · have n1_ := rgI x1
          have n3_ := rgI (qI S 9 1)
          have n4_ := li_2k
          have n4_ := t_subD (a := (qI S 9 1)) (b := (2 : Int32))
          have n5_ := rgI ((qI S 9 1) - (2 : Int32))
          omega
        refine ⟨?_, ?_⟩
        · have n2_ := rgI x1
          have n3_ := li_1k
          have n3_ := t_addD (a := x1) (b := (1 : Int32))
          have n4_ := rgI (x1 + (1 : Int32))
          have n6_ := rgI (qI S 9 1)
          have n7_ := li_2k
          have n7_ := t_subD (a := (qI S 9 1)) (b := (2 : Int32))
          have n8_ := rgI ((qI S 9 1) - (2 : Int32))
          omega
        exact trivial
      · rw [if_neg c2_]
        exact trivial
set_option maxRecDepth 100000 in
theorem dd_X7_s4 {S : MS} {x1 : Int32} (h9 : 0 ≤ (qI S 9 1).toInt) : d_X7_s4 S x1 := by
  unfold d_X7_s4
  by_cases c0_ : x1.toInt < 0
  · rw [if_pos c0_]
    exact trivial
  · rw [if_neg c0_]
    by_cases c1_ : ((qI S 9 1) - (4 : Int32)).toInt < x1.toInt
    · rw [if_pos c1_]
      exact trivial
    · rw [if_neg c1_]
      by_cases c2_ : (qI S 9 1).toInt ≤ (qN S (qO S 9 0) : Int)
      · rw [if_pos c2_]
        refine ⟨?_, ?_⟩
        · have n1_ := rgI x1
          have n3_ := rgI (qI S 9 1)
          have n4_ := li_4k
          have n4_ := t_subD (a := (qI S 9 1)) (b := (4 : Int32))
          have n5_ := rgI ((qI S 9 1) - (4 : Int32))
          omega
        refine ⟨?_, ?_⟩
        · have n2_ := rgI x1
          have n3_ := li_1k
          have n3_ := t_addD (a := x1) (b := (1 : Int32))
          have n4_ := rgI (x1 + (1 : Int32))
          have n6_ := rgI (qI S 9 1)
          have n7_ := li_4k
          have n7_ := t_subD (a := (qI S 9 1)) (b := (4 : Int32))
          have n8_ := rgI ((qI S 9 1) - (4 : Int32))
          omega
        refine ⟨?_, ?_⟩
        · have n2_ := rgI x1
          have n3_ := li_2k
          have n3_ := t_addD (a := x1) (b := (2 : Int32))
          have n4_ := rgI (x1 + (2 : Int32))
          have n6_ := rgI (qI S 9 1)
          have n7_ := li_4k
          have n7_ := t_subD (a := (qI S 9 1)) (b := (4 : Int32))
          have n8_ := rgI ((qI S 9 1) - (4 : Int32))
          omega
        refine ⟨?_, ?_⟩
        · have n2_ := rgI x1
          have n3_ := li_3k
          have n3_ := t_addD (a := x1) (b := (3 : Int32))
          have n4_ := rgI (x1 + (3 : Int32))
          have n6_ := rgI (qI S 9 1)
          have n7_ := li_4k
          have n7_ := t_subD (a := (qI S 9 1)) (b := (4 : Int32))
          have n8_ := rgI ((qI S 9 1) - (4 : Int32))
          omega
        exact trivial
      · rw [if_neg c2_]
        exact trivial
set_option maxRecDepth 100000 in
theorem dd_X7_u4 {S : MS} {x1 : Int32} (h9 : 0 ≤ (qI S 9 1).toInt) : d_X7_u4 S x1 := by
  unfold d_X7_u4
  refine ⟨?_, ?_⟩
  · exact dd_X7_s4 h9
  exact trivial
set_option maxRecDepth 100000 in
theorem dd_X7_entryLength {S : MS} {x1 : Int32} (h9 : 0 ≤ (qI S 9 1).toInt) : d_X7_entryLength S x1 := by
  unfold d_X7_entryLength
  by_cases c0_ : x1.toInt = 1
  · rw [if_pos c0_]
    refine ⟨?_, ?_⟩
    · exact dd_X7_u2 h9
    exact trivial
  · rw [if_neg c0_]
    exact trivial
set_option maxRecDepth 100000 in
theorem dd_X7_entryAt_J22 {S : MS} : d_X7_entryAt_J22 S := by
  unfold d_X7_entryAt_J22
  exact trivial
set_option maxRecDepth 100000 in
theorem dd_X7_entryAt {S : MS} {x1 : Int32} : d_X7_entryAt S x1 := by
  unfold d_X7_entryAt
  by_cases c0_ : x1.toInt < 1
  · rw [if_pos c0_]
    exact dd_X7_entryAt_J22
  · rw [if_neg c0_]
    by_cases c1_ : (qI S 9 5).toInt ≤ x1.toInt
    · rw [if_pos c1_]
      exact dd_X7_entryAt_J22
    · rw [if_neg c1_]
      by_cases c2_ : x1.toInt < 500
      · rw [if_pos c2_]
        refine ⟨?_, ?_⟩
        · have n1_ := rgI x1
          have n2_ := rgI (qI S 9 5)
          omega
        exact trivial
      · rw [if_neg c2_]
        exact dd_X7_entryAt_J22
set_option maxRecDepth 100000 in
theorem dd_X7_tagOf {S : MS} {x1 : Int32} : d_X7_tagOf S x1 := by
  unfold d_X7_tagOf
  refine ⟨?_, ?_⟩
  · exact dd_X7_entryAt
  by_cases c0_ : (fX7_entryAt S x1).toInt = 0
  · rw [if_pos c0_]
    exact trivial
  · rw [if_neg c0_]
    refine ⟨?_, ?_⟩
    · exact dd_X7_entryAt
    refine ⟨?_, ?_⟩
    · exact dd_X7_u1
    exact trivial
set_option maxRecDepth 100000 in
theorem dd_X7_firstOf {S : MS} {x1 : Int32} (h9 : 0 ≤ (qI S 9 1).toInt) : d_X7_firstOf S x1 := by
  unfold d_X7_firstOf
  refine ⟨?_, ?_⟩
  · exact dd_X7_entryAt
  refine ⟨?_, ?_⟩
  · exact dd_X7_u2 h9
  exact trivial
set_option maxRecDepth 100000 in
theorem dd_X7_secondOf {S : MS} {x1 : Int32} (h9 : 0 ≤ (qI S 9 1).toInt) : d_X7_secondOf S x1 := by
  unfold d_X7_secondOf
  refine ⟨?_, ?_⟩
  · exact dd_X7_entryAt
  refine ⟨?_, ?_⟩
  · exact dd_X7_u2 h9
  exact trivial
set_option maxRecDepth 100000 in
theorem dd_X7_memberPlace_J13 {S : MS} : d_X7_memberPlace_J13 S := by
  unfold d_X7_memberPlace_J13
  exact trivial
set_option maxRecDepth 100000 in
theorem dd_X7_memberPlace {S : MS} {x1 : Int32} : d_X7_memberPlace S x1 := by
  unfold d_X7_memberPlace
  by_cases c0_ : x1.toInt < 0
  · rw [if_pos c0_]
    exact dd_X7_memberPlace_J13
  · rw [if_neg c0_]
    by_cases c1_ : x1.toInt < 48
    · rw [if_pos c1_]
      refine ⟨?_, ?_⟩
      · have n1_ := rgI x1
        omega
      exact trivial
    · rw [if_neg c1_]
      exact dd_X7_memberPlace_J13
set_option maxRecDepth 100000 in
theorem dd_X7_nameOf {S : MS} {x1 : Int32} (h9 : 0 ≤ (qI S 9 1).toInt) : d_X7_nameOf S x1 := by
  unfold d_X7_nameOf
  refine ⟨?_, ?_⟩
  · exact dd_X7_memberPlace
  refine ⟨?_, ?_⟩
  · exact dd_X7_u2 h9
  exact trivial
set_option maxRecDepth 100000 in
theorem dd_X7_typeOf {S : MS} {x1 : Int32} (h9 : 0 ≤ (qI S 9 1).toInt) : d_X7_typeOf S x1 := by
  unfold d_X7_typeOf
  refine ⟨?_, ?_⟩
  · exact dd_X7_memberPlace
  refine ⟨?_, ?_⟩
  · exact dd_X7_u2 h9
  exact trivial
set_option maxRecDepth 100000 in
theorem dd_X7_nameLength {S : MS} {x1 : Int32} (h9 : 0 ≤ (qI S 9 1).toInt) : d_X7_nameLength S x1 := by
  unfold d_X7_nameLength
  refine ⟨?_, ?_⟩
  · exact dd_X7_entryAt
  refine ⟨?_, ?_⟩
  · exact dd_X7_u2 h9
  exact trivial
set_option maxRecDepth 100000 in
theorem dd_X7_nameSign {S : MS} {x1 : Int32} {x2 : Int32} : d_X7_nameSign S x1 x2 := by
  unfold d_X7_nameSign
  refine ⟨?_, ?_⟩
  · exact dd_X7_entryAt
  refine ⟨?_, ?_⟩
  · exact dd_X7_u1
  exact trivial
set_option maxRecDepth 100000 in
theorem dd_X7_kindOfPart_J84 {S : MS} : d_X7_kindOfPart_J84 S := by
  unfold d_X7_kindOfPart_J84
  exact trivial
set_option maxRecDepth 100000 in
theorem dd_X7_kindOfPart {S : MS} {x1 : Int32} {x2 : Int32} (h9 : 0 ≤ (qI S 9 1).toInt) : d_X7_kindOfPart S x1 x2 := by
  unfold d_X7_kindOfPart
  refine ⟨?_, ?_⟩
  · exact dd_X7_nameLength h9
  by_cases c0_ : x2.toInt < (fX7_nameLength S x1).toInt
  · rw [if_pos c0_]
    refine ⟨?_, ?_⟩
    · exact dd_X7_nameSign
    by_cases c1_ : (fX7_nameSign S x1 x2).toInt = 73
    · rw [if_pos c1_]
      exact trivial
    · rw [if_neg c1_]
      by_cases c2_ : (fX7_nameSign S x1 x2).toInt = 74
      · rw [if_pos c2_]
        exact trivial
      · rw [if_neg c2_]
        by_cases c3_ : (fX7_nameSign S x1 x2).toInt = 91
        · rw [if_pos c3_]
          refine ⟨?_, ?_⟩
          · exact dd_X7_nameLength h9
          by_cases c4_ : (fX7_nameLength S x1).toInt ≤ (x2 + (1 : Int32)).toInt
          · rw [if_pos c4_]
            exact dd_X7_kindOfPart_J84
          · rw [if_neg c4_]
            refine ⟨?_, ?_⟩
            · exact dd_X7_nameSign
            by_cases c5_ : (fX7_nameSign S x1 (x2 + (1 : Int32))).toInt = 73
            · rw [if_pos c5_]
              exact trivial
            · rw [if_neg c5_]
              exact dd_X7_kindOfPart_J84
        · rw [if_neg c3_]
          exact trivial
  · rw [if_neg c0_]
    exact trivial
set_option maxRecDepth 100000 in
theorem dd_X2_u1_J12 {S : MS} : d_X2_u1_J12 S := by
  unfold d_X2_u1_J12
  exact trivial
set_option maxRecDepth 100000 in
theorem dd_X2_u1 {S : MS} {x1 : Int32} : d_X2_u1 S x1 := by
  unfold d_X2_u1
  by_cases c0_ : x1.toInt < 0
  · rw [if_pos c0_]
    exact dd_X2_u1_J12
  · rw [if_neg c0_]
    by_cases c1_ : x1.toInt < (qI S 8 2).toInt
    · rw [if_pos c1_]
      refine ⟨?_, ?_⟩
      · exact dd_X7_u1
      exact trivial
    · rw [if_neg c1_]
      exact dd_X2_u1_J12
set_option maxRecDepth 100000 in
theorem dd_X2_u2_J14 {S : MS} : d_X2_u2_J14 S := by
  unfold d_X2_u2_J14
  exact trivial
set_option maxRecDepth 100000 in
theorem dd_X2_u2 {S : MS} {x1 : Int32} (h9 : 0 ≤ (qI S 9 1).toInt) : d_X2_u2 S x1 := by
  unfold d_X2_u2
  by_cases c0_ : x1.toInt < 0
  · rw [if_pos c0_]
    exact dd_X2_u2_J14
  · rw [if_neg c0_]
    by_cases c1_ : x1.toInt ≤ ((qI S 8 2) - (2 : Int32)).toInt
    · rw [if_pos c1_]
      refine ⟨?_, ?_⟩
      · exact dd_X7_u2 h9
      exact trivial
    · rw [if_neg c1_]
      exact dd_X2_u2_J14
set_option maxRecDepth 100000 in
theorem dd_X2_s4_J14 {S : MS} : d_X2_s4_J14 S := by
  unfold d_X2_s4_J14
  exact trivial
set_option maxRecDepth 100000 in
theorem dd_X2_s4 {S : MS} {x1 : Int32} (h9 : 0 ≤ (qI S 9 1).toInt) : d_X2_s4 S x1 := by
  unfold d_X2_s4
  by_cases c0_ : x1.toInt < 0
  · rw [if_pos c0_]
    exact dd_X2_s4_J14
  · rw [if_neg c0_]
    by_cases c1_ : x1.toInt ≤ ((qI S 8 2) - (4 : Int32)).toInt
    · rw [if_pos c1_]
      refine ⟨?_, ?_⟩
      · exact dd_X7_s4 h9
      exact trivial
    · rw [if_neg c1_]
      exact dd_X2_s4_J14
set_option maxRecDepth 100000 in
theorem dd_X2_wideLength_J24 {S : MS} : d_X2_wideLength_J24 S := by
  unfold d_X2_wideLength_J24
  exact trivial
set_option maxRecDepth 100000 in
theorem dd_X2_wideLength {S : MS} {x0 : Int32} : d_X2_wideLength S x0 := by
  unfold d_X2_wideLength
  by_cases c0_ : x0.toInt = 132
  · rw [if_pos c0_]
    exact trivial
  · rw [if_neg c0_]
    refine ⟨?_, ?_⟩
    · exact dd_X6_isLoad
    by_cases c1_ : (fX6_isLoad S x0).toInt = 0
    · rw [if_pos c1_]
      refine ⟨?_, ?_⟩
      · exact dd_X6_isStore
      by_cases c2_ : (fX6_isStore S x0).toInt = 0
      · rw [if_pos c2_]
        exact trivial
      · rw [if_neg c2_]
        exact dd_X2_wideLength_J24
    · rw [if_neg c1_]
      exact dd_X2_wideLength_J24
set_option maxRecDepth 100000 in
theorem dd_X2_tableLength {S : MS} {x1 : Int32} (h9 : 0 ≤ (qI S 9 1).toInt) : d_X2_tableLength S x1 := by
  unfold d_X2_tableLength
  refine ⟨?_, ?_⟩
  · exact dd_X2_numbersOf
  refine ⟨?_, ?_⟩
  · exact dd_X2_s4 h9
  refine ⟨?_, ?_⟩
  · exact dd_X2_s4 h9
  exact trivial
set_option maxRecDepth 100000 in
theorem dd_X2_switchCount {S : MS} {x1 : Int32} (h9 : 0 ≤ (qI S 9 1).toInt) : d_X2_switchCount S x1 := by
  unfold d_X2_switchCount
  by_cases c0_ : (qI S 8 9).toInt = 170
  · rw [if_pos c0_]
    refine ⟨?_, ?_⟩
    · exact dd_X2_s4 h9
    refine ⟨?_, ?_⟩
    · exact dd_X2_s4 h9
    exact trivial
  · rw [if_neg c0_]
    refine ⟨?_, ?_⟩
    · exact dd_X2_s4 h9
    exact trivial
set_option maxRecDepth 100000 in
theorem dd_X2_switchTarget_J53 {S : MS} {t53_0 : Int32} {t53_2 : Int64} (h9 : 0 ≤ (qI S 9 1).toInt) : d_X2_switchTarget_J53 S t53_0 t53_2 := by
  unfold d_X2_switchTarget_J53
  refine ⟨?_, ?_⟩
  · exact dd_X2_s4 h9
  exact trivial
set_option maxRecDepth 100000 in
theorem dd_X2_switchTarget {S : MS} {x1 : Int32} {x2 : Int32} (h9 : 0 ≤ (qI S 9 1).toInt) : d_X2_switchTarget S x1 x2 := by
  unfold d_X2_switchTarget
  by_cases c0_ : 0 ≤ x2.toInt
  · rw [if_pos c0_]
    by_cases c1_ : (qI S 8 9).toInt = 170
    · rw [if_pos c1_]
      exact dd_X2_switchTarget_J53 h9
    · rw [if_neg c1_]
      exact dd_X2_switchTarget_J53 h9
  · rw [if_neg c0_]
    refine ⟨?_, ?_⟩
    · exact dd_X2_s4 h9
    exact trivial
set_option maxRecDepth 100000 in
theorem dd_X2_longAt {S : MS} {x1 : Int32} (h9 : 0 ≤ (qI S 9 1).toInt) : d_X2_longAt S x1 := by
  unfold d_X2_longAt
  refine ⟨?_, ?_⟩
  · exact dd_X7_u4 h9
  refine ⟨?_, ?_⟩
  · exact dd_X7_u4 h9
  exact trivial
set_option maxRecDepth 100000 in
theorem dd_X7_kindOfType_J22 {S : MS} {t22_0 : Int32} {t22_1 : Int32} {v22_2 : Int32} : d_X7_kindOfType_J22 S t22_0 t22_1 v22_2 := by
  unfold d_X7_kindOfType_J22
  exact trivial
set_option maxRecDepth 100000 in
theorem dd_X7_kindOfType {S : MS} {x1 : Int32} (h9 : 0 ≤ (qI S 9 1).toInt) : d_X7_kindOfType S x1 := by
  unfold d_X7_kindOfType
  refine ⟨?_, ?_⟩
  · exact dd_X7_kindOfPart h9
  refine ⟨?_, ?_⟩
  · exact dd_X7_nameLength h9
  by_cases c0_ : (fX7_kindOfPart S x1 (0 : Int32)).toInt = 3
  · rw [if_pos c0_]
    exact dd_X7_kindOfType_J22
  · rw [if_neg c0_]
    exact dd_X7_kindOfType_J22
