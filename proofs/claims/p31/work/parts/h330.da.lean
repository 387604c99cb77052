set_option maxRecDepth 100000 in
theorem dd_J13_compare_74951 {S : MS} {y0 : Int64} {y2 : Int64} : d_J13_compare_74951 S y0 y2 := by
  unfold d_J13_compare_74951
  exact trivial
set_option maxRecDepth 100000 in
theorem dd_J6_bitCount_0f7a4 {S : MS} {x0 : Int32} : d_J6_bitCount_0f7a4 S x0 := by
  unfold d_J6_bitCount_0f7a4
  exact trivial
set_option maxRecDepth 100000 in
theorem dd_J13_bitCount_95d88 {S : MS} {y0 : Int64} : d_J13_bitCount_95d88 S y0 := by
  unfold d_J13_bitCount_95d88
  exact trivial
set_option maxRecDepth 100000 in
theorem dd_J6_numberOfTrailingZeros_0f7a4_J74 {S : MS} {v74_0 : Int32} {v74_1 : Int32} : d_J6_numberOfTrailingZeros_0f7a4_J74 S v74_0 v74_1 := by
  unfold d_J6_numberOfTrailingZeros_0f7a4_J74
  exact trivial
set_option maxRecDepth 100000 in
theorem dd_J6_numberOfTrailingZeros_0f7a4_J62 {S : MS} {v62_0 : Int32} {v62_1 : Int32} : d_J6_numberOfTrailingZeros_0f7a4_J62 S v62_0 v62_1 := by
  unfold d_J6_numberOfTrailingZeros_0f7a4_J62
  by_cases c0_ : v62_0.toInt ≤ 4
  · rw [if_pos c0_]
    exact dd_J6_numberOfTrailingZeros_0f7a4_J74
  · rw [if_neg c0_]
    exact dd_J6_numberOfTrailingZeros_0f7a4_J74
set_option maxRecDepth 100000 in
theorem dd_J6_numberOfTrailingZeros_0f7a4_J49 {S : MS} {v49_0 : Int32} {v49_1 : Int32} : d_J6_numberOfTrailingZeros_0f7a4_J49 S v49_0 v49_1 := by
  unfold d_J6_numberOfTrailingZeros_0f7a4_J49
  by_cases c0_ : v49_0.toInt ≤ 16
  · rw [if_pos c0_]
    exact dd_J6_numberOfTrailingZeros_0f7a4_J62
  · rw [if_neg c0_]
    exact dd_J6_numberOfTrailingZeros_0f7a4_J62
set_option maxRecDepth 100000 in
theorem dd_J6_numberOfTrailingZeros_0f7a4_J34 {S : MS} {v34_0 : Int32} {v34_1 : Int32} : d_J6_numberOfTrailingZeros_0f7a4_J34 S v34_0 v34_1 := by
  unfold d_J6_numberOfTrailingZeros_0f7a4_J34
  by_cases c0_ : v34_0.toInt ≤ 256
  · rw [if_pos c0_]
    exact dd_J6_numberOfTrailingZeros_0f7a4_J49
  · rw [if_neg c0_]
    exact dd_J6_numberOfTrailingZeros_0f7a4_J49
set_option maxRecDepth 100000 in
theorem dd_J6_numberOfTrailingZeros_0f7a4 {S : MS} {x0 : Int32} : d_J6_numberOfTrailingZeros_0f7a4 S x0 := by
  unfold d_J6_numberOfTrailingZeros_0f7a4
  by_cases c0_ : 0 < ((x0 ^^^ (-1 : Int32)) &&& (x0 - (1 : Int32))).toInt
  · rw [if_pos c0_]
    by_cases c1_ : ((x0 ^^^ (-1 : Int32)) &&& (x0 - (1 : Int32))).toInt ≤ 65536
    · rw [if_pos c1_]
      exact dd_J6_numberOfTrailingZeros_0f7a4_J34
    · rw [if_neg c1_]
      exact dd_J6_numberOfTrailingZeros_0f7a4_J34
  · rw [if_neg c0_]
    exact trivial
set_option maxRecDepth 100000 in
theorem dd_X1_placeAt_J10 {S : MS} : d_X1_placeAt_J10 S := by
  unfold d_X1_placeAt_J10
  exact trivial
set_option maxRecDepth 100000 in
theorem dd_X1_placeAt {S : MS} {x1 : Int32} : d_X1_placeAt S x1 := by
  unfold d_X1_placeAt
  by_cases c0_ : x1.toInt < 0
  · rw [if_pos c0_]
    exact dd_X1_placeAt_J10
  · rw [if_neg c0_]
    by_cases c1_ : x1.toInt < 48
    · rw [if_pos c1_]
      refine ⟨?_, ?_⟩
      · have n1_ := rgI x1
        omega
      exact trivial
    · rw [if_neg c1_]
      exact dd_X1_placeAt_J10
set_option maxRecDepth 100000 in
theorem dd_X1_lowerType {S : MS} {x0 : Int32} : d_X1_lowerType S x0 := by
  unfold d_X1_lowerType
  exact trivial
set_option maxRecDepth 100000 in
theorem dd_X1_join_J43 {S : MS} : d_X1_join_J43 S := by
  unfold d_X1_join_J43
  exact trivial
set_option maxRecDepth 100000 in
theorem dd_X1_join_J39 {S : MS} {v39_1 : Int32} : d_X1_join_J39 S v39_1 := by
  unfold d_X1_join_J39
  exact trivial
set_option maxRecDepth 100000 in
theorem dd_X1_join_J23 {S : MS} {v23_0 : Int32} {v23_1 : Int32} : d_X1_join_J23 S v23_0 v23_1 := by
  unfold d_X1_join_J23
  by_cases c0_ : v23_0.toInt = 6
  · rw [if_pos c0_]
    by_cases c1_ : v23_1.toInt = 4
    · rw [if_pos c1_]
      exact dd_X1_join_J39
    · rw [if_neg c1_]
      by_cases c2_ : v23_1.toInt = 5
      · rw [if_pos c2_]
        exact dd_X1_join_J39
      · rw [if_neg c2_]
        exact dd_X1_join_J43
  · rw [if_neg c0_]
    exact dd_X1_join_J43
set_option maxRecDepth 100000 in
theorem dd_X1_join {S : MS} {x0 : Int32} {x1 : Int32} : d_X1_join S x0 x1 := by
  unfold d_X1_join
  by_cases c0_ : x0.toInt = x1.toInt
  · rw [if_pos c0_]
    exact trivial
  · rw [if_neg c0_]
    by_cases c1_ : x1.toInt = 6
    · rw [if_pos c1_]
      by_cases c2_ : x0.toInt = 4
      · rw [if_pos c2_]
        exact trivial
      · rw [if_neg c2_]
        by_cases c3_ : x0.toInt = 5
        · rw [if_pos c3_]
          exact trivial
        · rw [if_neg c3_]
          exact dd_X1_join_J23
    · rw [if_neg c1_]
      exact dd_X1_join_J23
set_option maxRecDepth 100000 in
theorem dd_X1_isReference_J16 {S : MS} : d_X1_isReference_J16 S := by
  unfold d_X1_isReference_J16
  exact trivial
set_option maxRecDepth 100000 in
theorem dd_X1_isReference {S : MS} {x0 : Int32} : d_X1_isReference S x0 := by
  unfold d_X1_isReference
  by_cases c0_ : x0.toInt = 4
  · rw [if_pos c0_]
    exact dd_X1_isReference_J16
  · rw [if_neg c0_]
    by_cases c1_ : x0.toInt = 5
    · rw [if_pos c1_]
      exact dd_X1_isReference_J16
    · rw [if_neg c1_]
      by_cases c2_ : x0.toInt = 6
      · rw [if_pos c2_]
        exact dd_X1_isReference_J16
      · rw [if_neg c2_]
        exact trivial
set_option maxRecDepth 100000 in
theorem dd_X1_isOnePlace_J21 {S : MS} : d_X1_isOnePlace_J21 S := by
  unfold d_X1_isOnePlace_J21
  exact trivial
set_option maxRecDepth 100000 in
theorem dd_X1_isOnePlace {S : MS} {x0 : Int32} : d_X1_isOnePlace S x0 := by
  unfold d_X1_isOnePlace
  by_cases c0_ : x0.toInt = 1
  · rw [if_pos c0_]
    exact dd_X1_isOnePlace_J21
  · rw [if_neg c0_]
    by_cases c1_ : x0.toInt = 4
    · rw [if_pos c1_]
      exact dd_X1_isOnePlace_J21
    · rw [if_neg c1_]
      by_cases c2_ : x0.toInt = 5
      · rw [if_pos c2_]
        exact dd_X1_isOnePlace_J21
      · rw [if_neg c2_]
        by_cases c3_ : x0.toInt = 6
        · rw [if_pos c3_]
          exact dd_X1_isOnePlace_J21
        · rw [if_neg c3_]
          exact trivial
set_option maxRecDepth 100000 in
theorem dd_X1_hasLong_J46 {S : MS} : d_X1_hasLong_J46 S := by
  unfold d_X1_hasLong_J46
  exact trivial
set_option maxRecDepth 100000 in
theorem dd_X1_hasLong {S : MS} : d_X1_hasLong S := by
  unfold d_X1_hasLong
  by_cases c0_ : (qI S 16 5).toInt < 2
  · rw [if_pos c0_]
    exact dd_X1_hasLong_J46
  · rw [if_neg c0_]
    refine ⟨?_, ?_⟩
    · exact dd_X1_placeAt
    by_cases c1_ : (fX1_placeAt S (((24 : Int32) + (qI S 16 5)) - (1 : Int32))).toInt = 3
    · rw [if_pos c1_]
      refine ⟨?_, ?_⟩
      · exact dd_X1_placeAt
      by_cases c2_ : (fX1_placeAt S (((24 : Int32) + (qI S 16 5)) - (2 : Int32))).toInt = 2
      · rw [if_pos c2_]
        exact trivial
      · rw [if_neg c2_]
        exact dd_X1_hasLong_J46
    · rw [if_neg c1_]
      exact dd_X1_hasLong_J46
set_option maxRecDepth 100000 in
theorem dd_X5_isArray_J20 {S : MS} : d_X5_isArray_J20 S := by
  unfold d_X5_isArray_J20
  exact trivial
set_option maxRecDepth 100000 in
theorem dd_X5_isArray {S : MS} {y1 : Int64} : d_X5_isArray S y1 := by
  unfold d_X5_isArray
  by_cases c0_ : (lg_cmp y1 1).toInt < 0
  · rw [if_pos c0_]
    exact dd_X5_isArray_J20
  · rw [if_neg c0_]
    by_cases c1_ : 0 < (lg_cmp y1 ((qI S 44 5).toInt64)).toInt
    · rw [if_pos c1_]
      exact dd_X5_isArray_J20
    · rw [if_neg c1_]
      exact trivial
set_option maxRecDepth 100000 in
theorem dd_X5_arrayStart_J26 {S : MS} : d_X5_arrayStart_J26 S := by
  unfold d_X5_arrayStart_J26
  exact trivial
set_option maxRecDepth 100000 in
theorem dd_X5_arrayStart {S : MS} {x1 : Int32} : d_X5_arrayStart S x1 := by
  unfold d_X5_arrayStart
  by_cases c0_ : x1.toInt ≤ (qI S 44 5).toInt
  · rw [if_pos c0_]
    by_cases c1_ : x1.toInt < 0
    · rw [if_pos c1_]
      exact dd_X5_arrayStart_J26
    · rw [if_neg c1_]
      by_cases c2_ : x1.toInt < (qN S (qO S 44 4) : Int)
      · rw [if_pos c2_]
        refine ⟨?_, ?_⟩
        · have n1_ := rgI x1
          have n2_ := rgI (qI S 44 5)
          omega
        exact trivial
      · rw [if_neg c2_]
        exact dd_X5_arrayStart_J26
  · rw [if_neg c0_]
    exact trivial
set_option maxRecDepth 100000 in
theorem dd_X6_ofInts_J204 {S : MS} {v204_1 : Int32} {v204_2 : Int32} : d_X6_ofInts_J204 S v204_1 v204_2 := by
  unfold d_X6_ofInts_J204
  exact trivial
set_option maxRecDepth 100000 in
theorem dd_X6_ofInts {S : MS} {x0 : Int32} {x1 : Int32} {x2 : Int32} : d_X6_ofInts S x0 x1 x2 := by
  unfold d_X6_ofInts
  by_cases c0_ : x0.toInt = 96
  · rw [if_pos c0_]
    exact trivial
  · rw [if_neg c0_]
    by_cases c1_ : x0.toInt = 97
    · rw [if_pos c1_]
      exact dd_X6_ofInts_J204
    · rw [if_neg c1_]
      by_cases c2_ : x0.toInt = 98
      · rw [if_pos c2_]
        exact dd_X6_ofInts_J204
      · rw [if_neg c2_]
        by_cases c3_ : x0.toInt = 99
        · rw [if_pos c3_]
          exact dd_X6_ofInts_J204
        · rw [if_neg c3_]
          by_cases c4_ : x0.toInt = 100
          · rw [if_pos c4_]
            exact trivial
          · rw [if_neg c4_]
            by_cases c5_ : x0.toInt = 101
            · rw [if_pos c5_]
              exact dd_X6_ofInts_J204
            · rw [if_neg c5_]
              by_cases c6_ : x0.toInt = 102
              · rw [if_pos c6_]
                exact dd_X6_ofInts_J204
              · rw [if_neg c6_]
                by_cases c7_ : x0.toInt = 103
                · rw [if_pos c7_]
                  exact dd_X6_ofInts_J204
                · rw [if_neg c7_]
                  by_cases c8_ : x0.toInt = 104
                  · rw [if_pos c8_]
                    exact trivial
                  · rw [if_neg c8_]
                    by_cases c9_ : x0.toInt = 105
                    · rw [if_pos c9_]
                      exact dd_X6_ofInts_J204
                    · rw [if_neg c9_]
                      by_cases c10_ : x0.toInt = 106
                      · rw [if_pos c10_]
                        exact dd_X6_ofInts_J204
                      · rw [if_neg c10_]
                        by_cases c11_ : x0.toInt = 107
                        · rw [if_pos c11_]
                          exact dd_X6_ofInts_J204
                        · rw [if_neg c11_]
                          by_cases c12_ : x0.toInt = 108
                          · rw [if_pos c12_]
                            by_cases c13_ : x2.toInt = 0
                            · rw [if_pos c13_]
                              exact trivial
                            · rw [if_neg c13_]
                              refine ⟨?_, ?_⟩
                              · have n1_ := rgI x2
                                have n2_ := rgI x0
                                omega
                              exact trivial
                          · rw [if_neg c12_]
                            by_cases c13_ : x0.toInt = 109
                            · rw [if_pos c13_]
                              exact dd_X6_ofInts_J204
                            · rw [if_neg c13_]
                              by_cases c14_ : x0.toInt = 110
                              · rw [if_pos c14_]
                                exact dd_X6_ofInts_J204
                              · rw [if_neg c14_]
                                by_cases c15_ : x0.toInt = 111
                                · rw [if_pos c15_]
                                  exact dd_X6_ofInts_J204
                                · rw [if_neg c15_]
                                  by_cases c16_ : x0.toInt = 112
                                  · rw [if_pos c16_]
                                    by_cases c17_ : x2.toInt = 0
                                    · rw [if_pos c17_]
                                      exact trivial
                                    · rw [if_neg c17_]
                                      refine ⟨?_, ?_⟩
                                      · have n1_ := rgI x2
                                        have n2_ := rgI x0
                                        omega
                                      exact trivial
                                  · rw [if_neg c16_]
                                    by_cases c17_ : x0.toInt = 113
                                    · rw [if_pos c17_]
                                      exact dd_X6_ofInts_J204
                                    · rw [if_neg c17_]
                                      by_cases c18_ : x0.toInt = 114
                                      · rw [if_pos c18_]
                                        exact dd_X6_ofInts_J204
                                      · rw [if_neg c18_]
                                        by_cases c19_ : x0.toInt = 115
                                        · rw [if_pos c19_]
                                          exact dd_X6_ofInts_J204
                                        · rw [if_neg c19_]
                                          by_cases c20_ : x0.toInt = 116
                                          · rw [if_pos c20_]
                                            exact dd_X6_ofInts_J204
                                          · rw [if_neg c20_]
                                            by_cases c21_ : x0.toInt = 117
                                            · rw [if_pos c21_]
                                              exact dd_X6_ofInts_J204
                                            · rw [if_neg c21_]
                                              by_cases c22_ : x0.toInt = 118
                                              · rw [if_pos c22_]
                                                exact dd_X6_ofInts_J204
                                              · rw [if_neg c22_]
                                                by_cases c23_ : x0.toInt = 119
                                                · rw [if_pos c23_]
                                                  exact dd_X6_ofInts_J204
                                                · rw [if_neg c23_]
                                                  by_cases c24_ : x0.toInt = 120
                                                  · rw [if_pos c24_]
                                                    exact trivial
                                                  · rw [if_neg c24_]
                                                    by_cases c25_ : x0.toInt = 121
                                                    · rw [if_pos c25_]
                                                      exact dd_X6_ofInts_J204
                                                    · rw [if_neg c25_]
                                                      by_cases c26_ : x0.toInt = 122
                                                      · rw [if_pos c26_]
                                                        exact trivial
                                                      · rw [if_neg c26_]
                                                        by_cases c27_ : x0.toInt = 123
                                                        · rw [if_pos c27_]
                                                          exact dd_X6_ofInts_J204
                                                        · rw [if_neg c27_]
                                                          by_cases c28_ : x0.toInt = 124
                                                          · rw [if_pos c28_]
                                                            exact trivial
                                                          · rw [if_neg c28_]
                                                            by_cases c29_ : x0.toInt = 125
                                                            · rw [if_pos c29_]
                                                              exact dd_X6_ofInts_J204
                                                            · rw [if_neg c29_]
                                                              by_cases c30_ : x0.toInt = 126
                                                              · rw [if_pos c30_]
                                                                exact trivial
                                                              · rw [if_neg c30_]
                                                                by_cases c31_ : x0.toInt = 127
                                                                · rw [if_pos c31_]
                                                                  exact dd_X6_ofInts_J204
                                                                · rw [if_neg c31_]
                                                                  by_cases c32_ : x0.toInt = 128
                                                                  · rw [if_pos c32_]
                                                                    exact trivial
                                                                  · rw [if_neg c32_]
                                                                    exact dd_X6_ofInts_J204
set_option maxRecDepth 100000 in
theorem dd_X6_unary {S : MS} {x0 : Int32} {y1 : Int64} : d_X6_unary S x0 y1 := by
  unfold d_X6_unary
  exact trivial
set_option maxRecDepth 100000 in
theorem dd_X6_isTaken_J20 {S : MS} {t20_0 : Int32} {v20_1 : Int32} {v20_2 : Int32} : d_X6_isTaken_J20 S t20_0 v20_1 v20_2 := by
  unfold d_X6_isTaken_J20
  exact trivial
set_option maxRecDepth 100000 in
theorem dd_X6_isTaken {S : MS} {x0 : Int32} {x1 : Int32} {x2 : Int32} : d_X6_isTaken S x0 x1 x2 := by
  unfold d_X6_isTaken
  by_cases c0_ : 159 ≤ x0.toInt
  · rw [if_pos c0_]
    exact dd_X6_isTaken_J20
  · rw [if_neg c0_]
    exact dd_X6_isTaken_J20
set_option maxRecDepth 100000 in
theorem dd_X8_behindRemoved {S : MS} {x0 : Int32} {x1 : Int32} {x2 : Int32} : d_X8_behindRemoved S x0 x1 x2 := by
  unfold d_X8_behindRemoved
  exact trivial
set_option maxRecDepth 100000 in
theorem dd_X9_appliedAt_J13 {S : MS} : d_X9_appliedAt_J13 S := by
  unfold d_X9_appliedAt_J13
  exact trivial
set_option maxRecDepth 100000 in
theorem dd_X9_appliedAt {S : MS} {x1 : Int32} : d_X9_appliedAt S x1 := by
  unfold d_X9_appliedAt
  by_cases c0_ : x1.toInt < 0
  · rw [if_pos c0_]
    exact dd_X9_appliedAt_J13
  · rw [if_neg c0_]
    by_cases c1_ : x1.toInt < 12
    · rw [if_pos c1_]
      refine ⟨?_, ?_⟩
      · have n1_ := rgI x1
        omega
      exact trivial
    · rw [if_neg c1_]
      exact dd_X9_appliedAt_J13
set_option maxRecDepth 100000 in
theorem dd_X9_placeOf_J13 {S : MS} : d_X9_placeOf_J13 S := by
  unfold d_X9_placeOf_J13
  exact trivial
set_option maxRecDepth 100000 in
theorem dd_X9_placeOf {S : MS} {x1 : Int32} : d_X9_placeOf S x1 := by
  unfold d_X9_placeOf
  by_cases c0_ : x1.toInt < 0
  · rw [if_pos c0_]
    exact dd_X9_placeOf_J13
  · rw [if_neg c0_]
    by_cases c1_ : x1.toInt < (qN S (qO S 66 5) : Int)
    · rw [if_pos c1_]
      refine ⟨?_, ?_⟩
      · have n1_ := rgI x1
        omega
      exact trivial
    · rw [if_neg c1_]
      exact dd_X9_placeOf_J13
set_option maxRecDepth 100000 in
theorem dd_X11_fits {S : MS} : d_X11_fits S := by
  unfold d_X11_fits
  exact trivial
set_option maxRecDepth 100000 in
theorem dd_X11_isByte {S : MS} {y0 : Int64} : d_X11_isByte S y0 := by
  unfold d_X11_isByte
  exact trivial
set_option maxRecDepth 100000 in
theorem dd_X11_lengthOfPush_J43 {S : MS} : d_X11_lengthOfPush_J43 S := by
  unfold d_X11_lengthOfPush_J43
  exact trivial
set_option maxRecDepth 100000 in
theorem dd_X11_lengthOfPush_J18 {S : MS} {v18_0 : Int64} {v18_2 : Int32} : d_X11_lengthOfPush_J18 S v18_0 v18_2 := by
  unfold d_X11_lengthOfPush_J18
  refine ⟨?_, ?_⟩
  · exact dd_X11_isByte
  by_cases c0_ : (fX11_isByte S v18_0).toInt = 0
  · rw [if_pos c0_]
    by_cases c1_ : (lg_cmp v18_0 (((v18_0.toInt32).toInt16.toInt32).toInt64)).toInt = 0
    · rw [if_pos c1_]
      exact dd_X11_lengthOfPush_J43
    · rw [if_neg c1_]
      by_cases c2_ : v18_2.toInt ≤ 255
      · rw [if_pos c2_]
        exact trivial
      · rw [if_neg c2_]
        exact dd_X11_lengthOfPush_J43
  · rw [if_neg c0_]
    exact trivial
set_option maxRecDepth 100000 in
theorem dd_X11_lengthOfPush {S : MS} {y0 : Int64} {x2 : Int32} : d_X11_lengthOfPush S y0 x2 := by
  unfold d_X11_lengthOfPush
  by_cases c0_ : (lg_cmp y0 (-1 : Int64)).toInt < 0
  · rw [if_pos c0_]
    exact dd_X11_lengthOfPush_J18
  · rw [if_neg c0_]
    by_cases c1_ : 0 < (lg_cmp y0 (5 : Int64)).toInt
    · rw [if_pos c1_]
      exact dd_X11_lengthOfPush_J18
    · rw [if_neg c1_]
      exact trivial
set_option maxRecDepth 100000 in
theorem dd_X5_lengthOf {S : MS} {x1 : Int32} : d_X5_lengthOf S x1 := by
  unfold d_X5_lengthOf
  refine ⟨?_, ?_⟩
  · exact dd_X5_isArray
  by_cases c0_ : (fX5_isArray S (x1.toInt64)).toInt = 0
  · rw [if_pos c0_]
    exact trivial
  · rw [if_neg c0_]
    refine ⟨?_, ?_⟩
    · exact dd_X5_arrayStart
    refine ⟨?_, ?_⟩
    · exact dd_X5_arrayStart
    exact trivial
