set_option maxRecDepth 100000 in
theorem sgX10_placesGiven {B : Nat × Nat} {S : MS} {p0 : Nat} {p1 : Nat} {x2 : Int32} (hw : wfC S) (g : ShC B S) (k_p0 : qT S p0 = 49) (k_p1 : qT S p1 = 47) : wX10_placesGiven S p0 p1 x2 (fun (r : Int32) (u : MS) => ShC B u ∧ (0 ≤ r.toInt ∧ r.toInt ≤ 16)) := by
  unfold wX10_placesGiven
  refine ⟨?_, ?_⟩
  · exact (dd_X8_opAt hw g k_p1)
  intro a4_0 ea4_0 
  have ga4_0 := congrArg Int32.toInt ea4_0
  refine ⟨fun c1_ => ?_, fun c1_ => ?_⟩
  · refine ⟨g, ?_⟩
    show 0 ≤ (2 : Int32).toInt ∧ (2 : Int32).toInt ≤ 16
    have s2_ := (g.unit k_p0).2
    have s3_ := (g.row k_p1).2
    have n1_ := li_2k
    have n2_ := rgI a4_0
    have n3_ := rgI (fX8_opAt S p1 x2)
    omega
  · refine ⟨fun c4_ => ?_, fun c4_ => ?_⟩
    · refine ⟨g, ?_⟩
      show 0 ≤ (3 : Int32).toInt ∧ (3 : Int32).toInt ≤ 16
      have s5_ := (g.unit k_p0).2
      have s6_ := (g.row k_p1).2
      have n1_ := li_3k
      have n2_ := rgI a4_0
      have n3_ := rgI (fX8_opAt S p1 x2)
      omega
    · refine ⟨fun c7_ => ?_, fun c7_ => ?_⟩
      · unfold w_X10_placesGiven_J54
        intro y1_ y2_ y3_
        refine ⟨?_, ?_⟩
        · exact (dd_X10_gives y1_ g y2_ y3_)
        intro a8_8 ea8_8 
        have ga8_8 := congrArg Int32.toInt ea8_8
        refine ⟨_, frX6_placesOf y1_ (sgX6_placesOf y1_ g), ?_⟩
        intro r10_9 S11_9 q4_ y5_ y6_
        have t10_ : (qI S11_9 p0 8).toInt = (qI S p0 8).toInt := congrArg Int32.toInt (q4_.2.kI (j := 8) y2_ (by decide) (by decide))
        have t11_ : (qI S11_9 p0 4).toInt = (qI S p0 4).toInt := congrArg Int32.toInt (q4_.2.kI (j := 4) y2_ (by decide) (by decide))
        have t12_ : (qN S11_9 (qO S11_9 p0 13) : Int) = (qN S (qO S p0 13) : Int) := q4_.2.kL (j := 13) y1_ y2_ (g.unit y2_).1.2.2.2.2.2.2.2.2 (by decide) (by decide)
        have t13_ : (qN S11_9 (qO S11_9 p0 9) : Int) = (qN S (qO S p0 9) : Int) := q4_.2.kL (j := 9) y1_ y2_ (g.unit y2_).1.2.2.2.2.1 (by decide) (by decide)
        have t14_ : (qN S11_9 (qO S11_9 p0 5) : Int) = (qN S (qO S p0 5) : Int) := q4_.2.kL (j := 5) y1_ y2_ (g.unit y2_).1.2.1 (by decide) (by decide)
        have t15_ : (qI S11_9 p1 4).toInt = (qI S p1 4).toInt := congrArg Int32.toInt (q4_.2.kI (j := 4) y3_ (by decide) (by decide))
        have t16_ : (qI S11_9 p1 9).toInt = (qI S p1 9).toInt := congrArg Int32.toInt (q4_.2.kI (j := 9) y3_ (by decide) (by decide))
        have t17_ : (qI S11_9 p1 2).toInt = (qI S p1 2).toInt := congrArg Int32.toInt (q4_.2.kI (j := 2) y3_ (by decide) (by decide))
        have t18_ : (qN S11_9 (qO S11_9 p1 1) : Int) = (qN S (qO S p1 1) : Int) := q4_.2.kL (j := 1) y1_ y3_ (g.row y3_).1.2.1 (by decide) (by decide)
        have t19_ : (qN S11_9 (qO S11_9 p1 8) : Int) = (qN S (qO S p1 8) : Int) := q4_.2.kL (j := 8) y1_ y3_ (g.row y3_).1.2.2.2.2.2.2 (by decide) (by decide)
        have t20_ : (qN S11_9 (qO S11_9 p1 7) : Int) = (qN S (qO S p1 7) : Int) := q4_.2.kL (j := 7) y1_ y3_ (g.row y3_).1.2.2.2.2.2.1 (by decide) (by decide)
        have t21_ : (qN S11_9 (qO S11_9 p1 0) : Int) = (qN S (qO S p1 0) : Int) := q4_.2.kL (j := 0) y1_ y3_ (g.row y3_).1.1 (by decide) (by decide)
        have t22_ : (qN S11_9 (qO S11_9 p1 6) : Int) = (qN S (qO S p1 6) : Int) := q4_.2.kL (j := 6) y1_ y3_ (g.row y3_).1.2.2.2.2.1 (by decide) (by decide)
        have t23_ : (qN S11_9 (qO S11_9 p1 3) : Int) = (qN S (qO S p1 3) : Int) := q4_.2.kL (j := 3) y1_ y3_ (g.row y3_).1.2.2.1 (by decide) (by decide)
        have t24_ : (qN S11_9 (qO S11_9 p1 5) : Int) = (qN S (qO S p1 5) : Int) := q4_.2.kL (j := 5) y1_ y3_ (g.row y3_).1.2.2.2.1 (by decide) (by decide)
        have k25_ : qT S11_9 p0 = 49 := q4_.2.1.T y2_ (by decide)
        have k26_ : qT S11_9 p1 = 47 := q4_.2.1.T y3_ (by decide)
        have g : ShC B S11_9 := q4_.1.1
        have zq4_ : 0 ≤ r10_9.toInt ∧ r10_9.toInt ≤ 16 := q4_.1.2
        refine ⟨g, ?_⟩
        show 0 ≤ r10_9.toInt ∧ r10_9.toInt ≤ 16
        have s27_ := (g.unit k25_).2
        have s28_ := (g.row k26_).2
        have n1_ := rgI r10_9
        have n2_ := rgI a4_0
        have n3_ := rgI (fX8_opAt S p1 x2)
        have n4_ := rgI a8_8
        have n5_ := rgI (fX10_gives S p0 p1 x2)
        omega
      · refine ⟨fun c29_ => ?_, fun c29_ => ?_⟩
        · refine ⟨g, ?_⟩
          show 0 ≤ (4 : Int32).toInt ∧ (4 : Int32).toInt ≤ 16
          have s30_ := (g.unit k_p0).2
          have s31_ := (g.row k_p1).2
          have n1_ := li_4k
          have n2_ := rgI a4_0
          have n3_ := rgI (fX8_opAt S p1 x2)
          omega
        · refine ⟨fun c32_ => ?_, fun c32_ => ?_⟩
          · unfold w_X10_placesGiven_J54
            intro y7_ y8_ y9_
            refine ⟨?_, ?_⟩
            · exact (dd_X10_gives y7_ g y8_ y9_)
            intro a8_33 ea8_33 
            have ga8_33 := congrArg Int32.toInt ea8_33
            refine ⟨_, frX6_placesOf y7_ (sgX6_placesOf y7_ g), ?_⟩
            intro r10_34 S11_34 q10_ y11_ y12_
            have t35_ : (qI S11_34 p0 8).toInt = (qI S p0 8).toInt := congrArg Int32.toInt (q10_.2.kI (j := 8) y8_ (by decide) (by decide))
            have t36_ : (qI S11_34 p0 4).toInt = (qI S p0 4).toInt := congrArg Int32.toInt (q10_.2.kI (j := 4) y8_ (by decide) (by decide))
            have t37_ : (qN S11_34 (qO S11_34 p0 13) : Int) = (qN S (qO S p0 13) : Int) := q10_.2.kL (j := 13) y7_ y8_ (g.unit y8_).1.2.2.2.2.2.2.2.2 (by decide) (by decide)
            have t38_ : (qN S11_34 (qO S11_34 p0 9) : Int) = (qN S (qO S p0 9) : Int) := q10_.2.kL (j := 9) y7_ y8_ (g.unit y8_).1.2.2.2.2.1 (by decide) (by decide)
            have t39_ : (qN S11_34 (qO S11_34 p0 5) : Int) = (qN S (qO S p0 5) : Int) := q10_.2.kL (j := 5) y7_ y8_ (g.unit y8_).1.2.1 (by decide) (by decide)
            have t40_ : (qI S11_34 p1 4).toInt = (qI S p1 4).toInt := congrArg Int32.toInt (q10_.2.kI (j := 4) y9_ (by decide) (by decide))
            have t41_ : (qI S11_34 p1 9).toInt = (qI S p1 9).toInt := congrArg Int32.toInt (q10_.2.kI (j := 9) y9_ (by decide) (by decide))
            have t42_ : (qI S11_34 p1 2).toInt = (qI S p1 2).toInt := congrArg Int32.toInt (q10_.2.kI (j := 2) y9_ (by decide) (by decide))
            have t43_ : (qN S11_34 (qO S11_34 p1 1) : Int) = (qN S (qO S p1 1) : Int) := q10_.2.kL (j := 1) y7_ y9_ (g.row y9_).1.2.1 (by decide) (by decide)
            have t44_ : (qN S11_34 (qO S11_34 p1 8) : Int) = (qN S (qO S p1 8) : Int) := q10_.2.kL (j := 8) y7_ y9_ (g.row y9_).1.2.2.2.2.2.2 (by decide) (by decide)
            have t45_ : (qN S11_34 (qO S11_34 p1 7) : Int) = (qN S (qO S p1 7) : Int) := q10_.2.kL (j := 7) y7_ y9_ (g.row y9_).1.2.2.2.2.2.1 (by decide) (by decide)
            have t46_ : (qN S11_34 (qO S11_34 p1 0) : Int) = (qN S (qO S p1 0) : Int) := q10_.2.kL (j := 0) y7_ y9_ (g.row y9_).1.1 (by decide) (by decide)
            have t47_ : (qN S11_34 (qO S11_34 p1 6) : Int) = (qN S (qO S p1 6) : Int) := q10_.2.kL (j := 6) y7_ y9_ (g.row y9_).1.2.2.2.2.1 (by decide) (by decide)
            have t48_ : (qN S11_34 (qO S11_34 p1 3) : Int) = (qN S (qO S p1 3) : Int) := q10_.2.kL (j := 3) y7_ y9_ (g.row y9_).1.2.2.1 (by decide) (by decide)
            have t49_ : (qN S11_34 (qO S11_34 p1 5) : Int) = (qN S (qO S p1 5) : Int) := q10_.2.kL (j := 5) y7_ y9_ (g.row y9_).1.2.2.2.1 (by decide) (by decide)
            have k50_ : qT S11_34 p0 = 49 := q10_.2.1.T y8_ (by decide)
            have k51_ : qT S11_34 p1 = 47 := q10_.2.1.T y9_ (by decide)
            have g : ShC B S11_34 := q10_.1.1
            have zq10_ : 0 ≤ r10_34.toInt ∧ r10_34.toInt ≤ 16 := q10_.1.2
            refine ⟨g, ?_⟩
            show 0 ≤ r10_34.toInt ∧ r10_34.toInt ≤ 16
            have s52_ := (g.unit k50_).2
            have s53_ := (g.row k51_).2
            have n1_ := rgI r10_34
            have n2_ := rgI a4_0
            have n3_ := rgI (fX8_opAt S p1 x2)
            have n4_ := rgI a8_33
            have n5_ := rgI (fX10_gives S p0 p1 x2)
            omega
          · refine ⟨fun c54_ => ?_, fun c54_ => ?_⟩
            · unfold w_X10_placesGiven_J54
              intro y13_ y14_ y15_
              refine ⟨?_, ?_⟩
              · exact (dd_X10_gives y13_ g y14_ y15_)
              intro a8_55 ea8_55 
              have ga8_55 := congrArg Int32.toInt ea8_55
              refine ⟨_, frX6_placesOf y13_ (sgX6_placesOf y13_ g), ?_⟩
              intro r10_56 S11_56 q16_ y17_ y18_
              have t57_ : (qI S11_56 p0 8).toInt = (qI S p0 8).toInt := congrArg Int32.toInt (q16_.2.kI (j := 8) y14_ (by decide) (by decide))
              have t58_ : (qI S11_56 p0 4).toInt = (qI S p0 4).toInt := congrArg Int32.toInt (q16_.2.kI (j := 4) y14_ (by decide) (by decide))
              have t59_ : (qN S11_56 (qO S11_56 p0 13) : Int) = (qN S (qO S p0 13) : Int) := q16_.2.kL (j := 13) y13_ y14_ (g.unit y14_).1.2.2.2.2.2.2.2.2 (by decide) (by decide)
              have t60_ : (qN S11_56 (qO S11_56 p0 9) : Int) = (qN S (qO S p0 9) : Int) := q16_.2.kL (j := 9) y13_ y14_ (g.unit y14_).1.2.2.2.2.1 (by decide) (by decide)
              have t61_ : (qN S11_56 (qO S11_56 p0 5) : Int) = (qN S (qO S p0 5) : Int) := q16_.2.kL (j := 5) y13_ y14_ (g.unit y14_).1.2.1 (by decide) (by decide)
              have t62_ : (qI S11_56 p1 4).toInt = (qI S p1 4).toInt := congrArg Int32.toInt (q16_.2.kI (j := 4) y15_ (by decide) (by decide))
              have t63_ : (qI S11_56 p1 9).toInt = (qI S p1 9).toInt := congrArg Int32.toInt (q16_.2.kI (j := 9) y15_ (by decide) (by decide))
              have t64_ : (qI S11_56 p1 2).toInt = (qI S p1 2).toInt := congrArg Int32.toInt (q16_.2.kI (j := 2) y15_ (by decide) (by decide))
              have t65_ : (qN S11_56 (qO S11_56 p1 1) : Int) = (qN S (qO S p1 1) : Int) := q16_.2.kL (j := 1) y13_ y15_ (g.row y15_).1.2.1 (by decide) (by decide)
              have t66_ : (qN S11_56 (qO S11_56 p1 8) : Int) = (qN S (qO S p1 8) : Int) := q16_.2.kL (j := 8) y13_ y15_ (g.row y15_).1.2.2.2.2.2.2 (by decide) (by decide)
              have t67_ : (qN S11_56 (qO S11_56 p1 7) : Int) = (qN S (qO S p1 7) : Int) := q16_.2.kL (j := 7) y13_ y15_ (g.row y15_).1.2.2.2.2.2.1 (by decide) (by decide)
              have t68_ : (qN S11_56 (qO S11_56 p1 0) : Int) = (qN S (qO S p1 0) : Int) := q16_.2.kL (j := 0) y13_ y15_ (g.row y15_).1.1 (by decide) (by decide)
              have t69_ : (qN S11_56 (qO S11_56 p1 6) : Int) = (qN S (qO S p1 6) : Int) := q16_.2.kL (j := 6) y13_ y15_ (g.row y15_).1.2.2.2.2.1 (by decide) (by decide)
              have t70_ : (qN S11_56 (qO S11_56 p1 3) : Int) = (qN S (qO S p1 3) : Int) := q16_.2.kL (j := 3) y13_ y15_ (g.row y15_).1.2.2.1 (by decide) (by decide)
              have t71_ : (qN S11_56 (qO S11_56 p1 5) : Int) = (qN S (qO S p1 5) : Int) := q16_.2.kL (j := 5) y13_ y15_ (g.row y15_).1.2.2.2.1 (by decide) (by decide)
              have k72_ : qT S11_56 p0 = 49 := q16_.2.1.T y14_ (by decide)
              have k73_ : qT S11_56 p1 = 47 := q16_.2.1.T y15_ (by decide)
              have g : ShC B S11_56 := q16_.1.1
              have zq16_ : 0 ≤ r10_56.toInt ∧ r10_56.toInt ≤ 16 := q16_.1.2
              refine ⟨g, ?_⟩
              show 0 ≤ r10_56.toInt ∧ r10_56.toInt ≤ 16
              have s74_ := (g.unit k72_).2
              have s75_ := (g.row k73_).2
              have n1_ := rgI r10_56
              have n2_ := rgI a4_0
              have n3_ := rgI (fX8_opAt S p1 x2)
              have n4_ := rgI a8_55
              have n5_ := rgI (fX10_gives S p0 p1 x2)
              omega
            · refine ⟨fun c76_ => ?_, fun c76_ => ?_⟩
              · refine ⟨g, ?_⟩
                show 0 ≤ (2 : Int32).toInt ∧ (2 : Int32).toInt ≤ 16
                have s77_ := (g.unit k_p0).2
                have s78_ := (g.row k_p1).2
                have n1_ := li_2k
                have n2_ := rgI a4_0
                have n3_ := rgI (fX8_opAt S p1 x2)
                omega
              · unfold w_X10_placesGiven_J54
                intro y19_ y20_ y21_
                refine ⟨?_, ?_⟩
                · exact (dd_X10_gives y19_ g y20_ y21_)
                intro a8_79 ea8_79 
                have ga8_79 := congrArg Int32.toInt ea8_79
                refine ⟨_, frX6_placesOf y19_ (sgX6_placesOf y19_ g), ?_⟩
                intro r10_80 S11_80 q22_ y23_ y24_
                have t81_ : (qI S11_80 p0 8).toInt = (qI S p0 8).toInt := congrArg Int32.toInt (q22_.2.kI (j := 8) y20_ (by decide) (by decide))
                have t82_ : (qI S11_80 p0 4).toInt = (qI S p0 4).toInt := congrArg Int32.toInt (q22_.2.kI (j := 4) y20_ (by decide) (by decide))
                have t83_ : (qN S11_80 (qO S11_80 p0 13) : Int) = (qN S (qO S p0 13) : Int) := q22_.2.kL (j := 13) y19_ y20_ (g.unit y20_).1.2.2.2.2.2.2.2.2 (by decide) (by decide)
                have t84_ : (qN S11_80 (qO S11_80 p0 9) : Int) = (qN S (qO S p0 9) : Int) := q22_.2.kL (j := 9) y19_ y20_ (g.unit y20_).1.2.2.2.2.1 (by decide) (by decide)
                have t85_ : (qN S11_80 (qO S11_80 p0 5) : Int) = (qN S (qO S p0 5) : Int) := q22_.2.kL (j := 5) y19_ y20_ (g.unit y20_).1.2.1 (by decide) (by decide)
                have t86_ : (qI S11_80 p1 4).toInt = (qI S p1 4).toInt := congrArg Int32.toInt (q22_.2.kI (j := 4) y21_ (by decide) (by decide))
                have t87_ : (qI S11_80 p1 9).toInt = (qI S p1 9).toInt := congrArg Int32.toInt (q22_.2.kI (j := 9) y21_ (by decide) (by decide))
                have t88_ : (qI S11_80 p1 2).toInt = (qI S p1 2).toInt := congrArg Int32.toInt (q22_.2.kI (j := 2) y21_ (by decide) (by decide))
                have t89_ : (qN S11_80 (qO S11_80 p1 1) : Int) = (qN S (qO S p1 1) : Int) := q22_.2.kL (j := 1) y19_ y21_ (g.row y21_).1.2.1 (by decide) (by decide)
                have t90_ : (qN S11_80 (qO S11_80 p1 8) : Int) = (qN S (qO S p1 8) : Int) := q22_.2.kL (j := 8) y19_ y21_ (g.row y21_).1.2.2.2.2.2.2 (by decide) (by decide)
                have t91_ : (qN S11_80 (qO S11_80 p1 7) : Int) = (qN S (qO S p1 7) : Int) := q22_.2.kL (j := 7) y19_ y21_ (g.row y21_).1.2.2.2.2.2.1 (by decide) (by decide)
                have t92_ : (qN S11_80 (qO S11_80 p1 0) : Int) = (qN S (qO S p1 0) : Int) := q22_.2.kL (j := 0) y19_ y21_ (g.row y21_).1.1 (by decide) (by decide)
                have t93_ : (qN S11_80 (qO S11_80 p1 6) : Int) = (qN S (qO S p1 6) : Int) := q22_.2.kL (j := 6) y19_ y21_ (g.row y21_).1.2.2.2.2.1 (by decide) (by decide)
                have t94_ : (qN S11_80 (qO S11_80 p1 3) : Int) = (qN S (qO S p1 3) : Int) := q22_.2.kL (j := 3) y19_ y21_ (g.row y21_).1.2.2.1 (by decide) (by decide)
                have t95_ : (qN S11_80 (qO S11_80 p1 5) : Int) = (qN S (qO S p1 5) : Int) := q22_.2.kL (j := 5) y19_ y21_ (g.row y21_).1.2.2.2.1 (by decide) (by decide)
                have k96_ : qT S11_80 p0 = 49 := q22_.2.1.T y20_ (by decide)
                have k97_ : qT S11_80 p1 = 47 := q22_.2.1.T y21_ (by decide)
                have g : ShC B S11_80 := q22_.1.1
                have zq22_ : 0 ≤ r10_80.toInt ∧ r10_80.toInt ≤ 16 := q22_.1.2
                refine ⟨g, ?_⟩
                show 0 ≤ r10_80.toInt ∧ r10_80.toInt ≤ 16
                have s98_ := (g.unit k96_).2
                have s99_ := (g.row k97_).2
                have n1_ := rgI r10_80
                have n2_ := rgI a4_0
                have n3_ := rgI (fX8_opAt S p1 x2)
                have n4_ := rgI a8_79
                have n5_ := rgI (fX10_gives S p0 p1 x2)
                omega
set_option maxRecDepth 100000 in
theorem sgX4_comeTo {B : Nat × Nat} {S : MS} {p0 : Nat} {x1 : Int32} {x2 : Int32} (hw : wfC S) (g : ShC B S) (k_p0 : qT S p0 = 44) (qp0_ : qR S p0 4 = some (qO S p0 4)) : wX4_comeTo S p0 x1 x2 (fun u => ShC B u ∧ (True)) := by
  unfold wX4_comeTo
  refine ⟨fun c0_ => ?_, fun c0_ => ?_⟩
  · exact ⟨g, trivial⟩
  · refine ⟨?_, ?_⟩
    · exact qp0_
    refine ⟨fun c1_ => ?_, fun c1_ => ?_⟩
    · exact ⟨g, trivial⟩
    · refine ⟨?_, ?_⟩
      · exact (g.hts k_p0).1.1
      refine ⟨fun c2_ => ?_, fun c2_ => ?_⟩
      · exact ⟨g, trivial⟩
      · refine ⟨fun c3_ => ?_, fun c3_ => ?_⟩
        · exact ⟨g, trivial⟩
        · refine ⟨fun c4_ => ?_, fun c4_ => ?_⟩
          · exact ⟨g, trivial⟩
          · refine ⟨?_, ?_⟩
            · exact (g.hts k_p0).1.1
            refine ⟨?_, ?_⟩
            · have s5_ := (g.hts k_p0).2
              have s6_ := hw.len9 (hw.ref (g.hts k_p0).1.1 k_p0) (by decide)
              have s7_ := hw.len9 (hw.ref (g.hts k_p0).1.2.1 k_p0) (by decide)
              have s8_ := hw.len9 (hw.ref (g.hts k_p0).1.2.2 k_p0) (by decide)
              have s9_ := (g.row (hw.ref qp0_ k_p0)).2
              have n1_ := rgI x1
              have n2_ := rgI (qI S (qO S p0 4) 2)
              have n3_ := rgI x2
              omega
            refine ⟨fun c10_ => ?_, fun c10_ => ?_⟩
            · refine ⟨?_, ?_⟩
              · exact (g.hts k_p0).1.1
              refine ⟨?_, ?_⟩
              · have s11_ := (g.hts k_p0).2
                have s12_ := hw.len9 (hw.ref (g.hts k_p0).1.1 k_p0) (by decide)
                have s13_ := hw.len9 (hw.ref (g.hts k_p0).1.2.1 k_p0) (by decide)
                have s14_ := hw.len9 (hw.ref (g.hts k_p0).1.2.2 k_p0) (by decide)
                have s15_ := (g.row (hw.ref qp0_ k_p0)).2
                have n1_ := rgI x1
                have n2_ := rgI (qI S (qO S p0 4) 2)
                have n3_ := rgI x2
                have n4_ := rgI (((qI S (qO S p0 0) x1.toInt.toNat) >>> (x2 &&& 31)) &&& (1 : Int32))
                omega
              refine ⟨?_, ?_⟩
              · have s16_ := (g.hts k_p0).2
                have s17_ := hw.len9 (hw.ref (g.hts k_p0).1.1 k_p0) (by decide)
                have s18_ := hw.len9 (hw.ref (g.hts k_p0).1.2.1 k_p0) (by decide)
                have s19_ := hw.len9 (hw.ref (g.hts k_p0).1.2.2 k_p0) (by decide)
                have s20_ := (g.row (hw.ref qp0_ k_p0)).2
                have n1_ := rgI x1
                have n2_ := rgI (qI S (qO S p0 4) 2)
                have n3_ := rgI x2
                have n4_ := rgI (((qI S (qO S p0 0) x1.toInt.toNat) >>> (x2 &&& 31)) &&& (1 : Int32))
                omega
              intro S25_21 eS25_21 y1_ y2_
              have f22_ : cfr [213] [] S S25_21 := by rw [eS25_21]; exact cfr.aI y1_ (by decide)
              have t23_ : (qI S25_21 p0 7).toInt = (qI S p0 7).toInt := congrArg Int32.toInt (f22_.kI (j := 7) k_p0 (by decide) (by decide))
              have t24_ : (qI S25_21 p0 6).toInt = (qI S p0 6).toInt := congrArg Int32.toInt (f22_.kI (j := 6) k_p0 (by decide) (by decide))
              have t25_ : (qI S25_21 p0 5).toInt = (qI S p0 5).toInt := congrArg Int32.toInt (f22_.kI (j := 5) k_p0 (by decide) (by decide))
              have t26_ : (qN S25_21 (qO S25_21 p0 1) : Int) = (qN S (qO S p0 1) : Int) := f22_.kL (j := 1) hw k_p0 (g.hts k_p0).1.2.1 (by decide) (by decide)
              have t27_ : (qN S25_21 (qO S25_21 p0 0) : Int) = (qN S (qO S p0 0) : Int) := f22_.kL (j := 0) hw k_p0 (g.hts k_p0).1.1 (by decide) (by decide)
              have t28_ : (qN S25_21 (qO S25_21 p0 2) : Int) = (qN S (qO S p0 2) : Int) := f22_.kL (j := 2) hw k_p0 (g.hts k_p0).1.2.2 (by decide) (by decide)
              have o29_ : qO S25_21 p0 4 = qO S p0 4 := qO_eq (f22_.kO k_p0 (by decide) (by decide))
              have t30_ : (qI S25_21 (qO S25_21 p0 4) 4).toInt = (qI S (qO S p0 4) 4).toInt := by rw [o29_]; exact congrArg Int32.toInt (f22_.kI (j := 4) (hw.ref qp0_ k_p0) (by decide) (by decide))
              have t31_ : (qI S25_21 (qO S25_21 p0 4) 9).toInt = (qI S (qO S p0 4) 9).toInt := by rw [o29_]; exact congrArg Int32.toInt (f22_.kI (j := 9) (hw.ref qp0_ k_p0) (by decide) (by decide))
              have t32_ : (qI S25_21 (qO S25_21 p0 4) 2).toInt = (qI S (qO S p0 4) 2).toInt := by rw [o29_]; exact congrArg Int32.toInt (f22_.kI (j := 2) (hw.ref qp0_ k_p0) (by decide) (by decide))
              have t33_ : (qN S25_21 (qO S25_21 (qO S25_21 p0 4) 1) : Int) = (qN S (qO S (qO S p0 4) 1) : Int) := by rw [o29_]; exact f22_.kL (j := 1) hw (hw.ref qp0_ k_p0) (g.row (hw.ref qp0_ k_p0)).1.2.1 (by decide) (by decide)
              have t34_ : (qN S25_21 (qO S25_21 (qO S25_21 p0 4) 8) : Int) = (qN S (qO S (qO S p0 4) 8) : Int) := by rw [o29_]; exact f22_.kL (j := 8) hw (hw.ref qp0_ k_p0) (g.row (hw.ref qp0_ k_p0)).1.2.2.2.2.2.2 (by decide) (by decide)
              have t35_ : (qN S25_21 (qO S25_21 (qO S25_21 p0 4) 7) : Int) = (qN S (qO S (qO S p0 4) 7) : Int) := by rw [o29_]; exact f22_.kL (j := 7) hw (hw.ref qp0_ k_p0) (g.row (hw.ref qp0_ k_p0)).1.2.2.2.2.2.1 (by decide) (by decide)
              have t36_ : (qN S25_21 (qO S25_21 (qO S25_21 p0 4) 0) : Int) = (qN S (qO S (qO S p0 4) 0) : Int) := by rw [o29_]; exact f22_.kL (j := 0) hw (hw.ref qp0_ k_p0) (g.row (hw.ref qp0_ k_p0)).1.1 (by decide) (by decide)
              have t37_ : (qN S25_21 (qO S25_21 (qO S25_21 p0 4) 6) : Int) = (qN S (qO S (qO S p0 4) 6) : Int) := by rw [o29_]; exact f22_.kL (j := 6) hw (hw.ref qp0_ k_p0) (g.row (hw.ref qp0_ k_p0)).1.2.2.2.2.1 (by decide) (by decide)
              have t38_ : (qN S25_21 (qO S25_21 (qO S25_21 p0 4) 3) : Int) = (qN S (qO S (qO S p0 4) 3) : Int) := by rw [o29_]; exact f22_.kL (j := 3) hw (hw.ref qp0_ k_p0) (g.row (hw.ref qp0_ k_p0)).1.2.2.1 (by decide) (by decide)
              have t39_ : (qN S25_21 (qO S25_21 (qO S25_21 p0 4) 5) : Int) = (qN S (qO S (qO S p0 4) 5) : Int) := by rw [o29_]; exact f22_.kL (j := 5) hw (hw.ref qp0_ k_p0) (g.row (hw.ref qp0_ k_p0)).1.2.2.2.1 (by decide) (by decide)
              have p40_ : qR S25_21 p0 4 = some (qO S25_21 p0 4) := f22_.kP k_p0 qp0_ (by decide) (by decide)
              have k41_ : qT S25_21 p0 = 44 := f22_.1.T k_p0 (by decide)
              have g : ShC B S25_21 := ShC.ws hw g f22_ (by rw [eS25_21]; rfl) (by rw [eS25_21]; rfl) (by rw [eS25_21]; rfl) rfl rfl
              refine ⟨?_, ?_⟩
              · exact (g.hts k41_).1.2.1
              refine ⟨?_, ?_⟩
              · have s42_ := (g.hts k41_).2
                have s43_ := y2_.len9 (y2_.ref (g.hts k41_).1.1 k41_) (by decide)
                have s44_ := y2_.len9 (y2_.ref (g.hts k41_).1.2.1 k41_) (by decide)
                have s45_ := y2_.len9 (y2_.ref (g.hts k41_).1.2.2 k41_) (by decide)
                have s46_ := (g.row (y2_.ref p40_ k41_)).2
                have n1_ := rgI x1
                have n2_ := rgI (qI S (qO S p0 4) 2)
                have n3_ := rgI x2
                have n4_ := rgI (((qI S (qO S p0 0) x1.toInt.toNat) >>> (x2 &&& 31)) &&& (1 : Int32))
                omega
              refine ⟨?_, ?_⟩
              · have s47_ := (g.hts k41_).2
                have s48_ := y2_.len9 (y2_.ref (g.hts k41_).1.1 k41_) (by decide)
                have s49_ := y2_.len9 (y2_.ref (g.hts k41_).1.2.1 k41_) (by decide)
                have s50_ := y2_.len9 (y2_.ref (g.hts k41_).1.2.2 k41_) (by decide)
                have s51_ := (g.row (y2_.ref p40_ k41_)).2
                have n1_ := rgI x1
                have n2_ := rgI (qI S (qO S p0 4) 2)
                have n3_ := rgI x2
                have n4_ := rgI (((qI S (qO S p0 0) x1.toInt.toNat) >>> (x2 &&& 31)) &&& (1 : Int32))
                omega
              intro S33_52 eS33_52 y3_ y4_
              have f53_ : cfr [214] [] S25_21 S33_52 := by rw [eS33_52]; exact cfr.aI y3_ (by decide)
              have t54_ : (qI S33_52 p0 7).toInt = (qI S25_21 p0 7).toInt := congrArg Int32.toInt (f53_.kI (j := 7) k41_ (by decide) (by decide))
              have t55_ : (qI S33_52 p0 6).toInt = (qI S25_21 p0 6).toInt := congrArg Int32.toInt (f53_.kI (j := 6) k41_ (by decide) (by decide))
              have t56_ : (qI S33_52 p0 5).toInt = (qI S25_21 p0 5).toInt := congrArg Int32.toInt (f53_.kI (j := 5) k41_ (by decide) (by decide))
              have t57_ : (qN S33_52 (qO S33_52 p0 1) : Int) = (qN S25_21 (qO S25_21 p0 1) : Int) := f53_.kL (j := 1) y2_ k41_ (g.hts k41_).1.2.1 (by decide) (by decide)
              have t58_ : (qN S33_52 (qO S33_52 p0 0) : Int) = (qN S25_21 (qO S25_21 p0 0) : Int) := f53_.kL (j := 0) y2_ k41_ (g.hts k41_).1.1 (by decide) (by decide)
              have t59_ : (qN S33_52 (qO S33_52 p0 2) : Int) = (qN S25_21 (qO S25_21 p0 2) : Int) := f53_.kL (j := 2) y2_ k41_ (g.hts k41_).1.2.2 (by decide) (by decide)
              have o60_ : qO S33_52 p0 4 = qO S25_21 p0 4 := qO_eq (f53_.kO k41_ (by decide) (by decide))
              have t61_ : (qI S33_52 (qO S33_52 p0 4) 4).toInt = (qI S25_21 (qO S25_21 p0 4) 4).toInt := by rw [o60_]; exact congrArg Int32.toInt (f53_.kI (j := 4) (y2_.ref p40_ k41_) (by decide) (by decide))
              have t62_ : (qI S33_52 (qO S33_52 p0 4) 9).toInt = (qI S25_21 (qO S25_21 p0 4) 9).toInt := by rw [o60_]; exact congrArg Int32.toInt (f53_.kI (j := 9) (y2_.ref p40_ k41_) (by decide) (by decide))
              have t63_ : (qI S33_52 (qO S33_52 p0 4) 2).toInt = (qI S25_21 (qO S25_21 p0 4) 2).toInt := by rw [o60_]; exact congrArg Int32.toInt (f53_.kI (j := 2) (y2_.ref p40_ k41_) (by decide) (by decide))
              have t64_ : (qN S33_52 (qO S33_52 (qO S33_52 p0 4) 1) : Int) = (qN S25_21 (qO S25_21 (qO S25_21 p0 4) 1) : Int) := by rw [o60_]; exact f53_.kL (j := 1) y2_ (y2_.ref p40_ k41_) (g.row (y2_.ref p40_ k41_)).1.2.1 (by decide) (by decide)
              have t65_ : (qN S33_52 (qO S33_52 (qO S33_52 p0 4) 8) : Int) = (qN S25_21 (qO S25_21 (qO S25_21 p0 4) 8) : Int) := by rw [o60_]; exact f53_.kL (j := 8) y2_ (y2_.ref p40_ k41_) (g.row (y2_.ref p40_ k41_)).1.2.2.2.2.2.2 (by decide) (by decide)
              have t66_ : (qN S33_52 (qO S33_52 (qO S33_52 p0 4) 7) : Int) = (qN S25_21 (qO S25_21 (qO S25_21 p0 4) 7) : Int) := by rw [o60_]; exact f53_.kL (j := 7) y2_ (y2_.ref p40_ k41_) (g.row (y2_.ref p40_ k41_)).1.2.2.2.2.2.1 (by decide) (by decide)
              have t67_ : (qN S33_52 (qO S33_52 (qO S33_52 p0 4) 0) : Int) = (qN S25_21 (qO S25_21 (qO S25_21 p0 4) 0) : Int) := by rw [o60_]; exact f53_.kL (j := 0) y2_ (y2_.ref p40_ k41_) (g.row (y2_.ref p40_ k41_)).1.1 (by decide) (by decide)
              have t68_ : (qN S33_52 (qO S33_52 (qO S33_52 p0 4) 6) : Int) = (qN S25_21 (qO S25_21 (qO S25_21 p0 4) 6) : Int) := by rw [o60_]; exact f53_.kL (j := 6) y2_ (y2_.ref p40_ k41_) (g.row (y2_.ref p40_ k41_)).1.2.2.2.2.1 (by decide) (by decide)
              have t69_ : (qN S33_52 (qO S33_52 (qO S33_52 p0 4) 3) : Int) = (qN S25_21 (qO S25_21 (qO S25_21 p0 4) 3) : Int) := by rw [o60_]; exact f53_.kL (j := 3) y2_ (y2_.ref p40_ k41_) (g.row (y2_.ref p40_ k41_)).1.2.2.1 (by decide) (by decide)
              have t70_ : (qN S33_52 (qO S33_52 (qO S33_52 p0 4) 5) : Int) = (qN S25_21 (qO S25_21 (qO S25_21 p0 4) 5) : Int) := by rw [o60_]; exact f53_.kL (j := 5) y2_ (y2_.ref p40_ k41_) (g.row (y2_.ref p40_ k41_)).1.2.2.2.1 (by decide) (by decide)
              have p71_ : qR S33_52 p0 4 = some (qO S33_52 p0 4) := f53_.kP k41_ p40_ (by decide) (by decide)
              have k72_ : qT S33_52 p0 = 44 := f53_.1.T k41_ (by decide)
              have g : ShC B S33_52 := ShC.ws y2_ g f53_ (by rw [eS33_52]; rfl) (by rw [eS33_52]; rfl) (by rw [eS33_52]; rfl) rfl rfl
              intro S34_73 eS34_73 y5_ y6_
              have f74_ : cfr [] [(44, 6)] S33_52 S34_73 := by rw [eS34_73]; exact cfr.oI y5_ (by decide)
              have t75_ : (qI S34_73 p0 7).toInt = (qI S33_52 p0 7).toInt := congrArg Int32.toInt (f74_.kI (j := 7) k72_ (by decide) (by decide))
              have t76_ : (qI S34_73 p0 5).toInt = (qI S33_52 p0 5).toInt := congrArg Int32.toInt (f74_.kI (j := 5) k72_ (by decide) (by decide))
              have t77_ : (qN S34_73 (qO S34_73 p0 1) : Int) = (qN S33_52 (qO S33_52 p0 1) : Int) := f74_.kL (j := 1) y4_ k72_ (g.hts k72_).1.2.1 (by decide) (by decide)
              have t78_ : (qN S34_73 (qO S34_73 p0 0) : Int) = (qN S33_52 (qO S33_52 p0 0) : Int) := f74_.kL (j := 0) y4_ k72_ (g.hts k72_).1.1 (by decide) (by decide)
              have t79_ : (qN S34_73 (qO S34_73 p0 2) : Int) = (qN S33_52 (qO S33_52 p0 2) : Int) := f74_.kL (j := 2) y4_ k72_ (g.hts k72_).1.2.2 (by decide) (by decide)
              have o80_ : qO S34_73 p0 4 = qO S33_52 p0 4 := qO_eq (f74_.kO k72_ (by decide) (by decide))
              have t81_ : (qI S34_73 (qO S34_73 p0 4) 4).toInt = (qI S33_52 (qO S33_52 p0 4) 4).toInt := by rw [o80_]; exact congrArg Int32.toInt (f74_.kI (j := 4) (y4_.ref p71_ k72_) (by decide) (by decide))
              have t82_ : (qI S34_73 (qO S34_73 p0 4) 9).toInt = (qI S33_52 (qO S33_52 p0 4) 9).toInt := by rw [o80_]; exact congrArg Int32.toInt (f74_.kI (j := 9) (y4_.ref p71_ k72_) (by decide) (by decide))
              have t83_ : (qI S34_73 (qO S34_73 p0 4) 2).toInt = (qI S33_52 (qO S33_52 p0 4) 2).toInt := by rw [o80_]; exact congrArg Int32.toInt (f74_.kI (j := 2) (y4_.ref p71_ k72_) (by decide) (by decide))
              have t84_ : (qN S34_73 (qO S34_73 (qO S34_73 p0 4) 1) : Int) = (qN S33_52 (qO S33_52 (qO S33_52 p0 4) 1) : Int) := by rw [o80_]; exact f74_.kL (j := 1) y4_ (y4_.ref p71_ k72_) (g.row (y4_.ref p71_ k72_)).1.2.1 (by decide) (by decide)
              have t85_ : (qN S34_73 (qO S34_73 (qO S34_73 p0 4) 8) : Int) = (qN S33_52 (qO S33_52 (qO S33_52 p0 4) 8) : Int) := by rw [o80_]; exact f74_.kL (j := 8) y4_ (y4_.ref p71_ k72_) (g.row (y4_.ref p71_ k72_)).1.2.2.2.2.2.2 (by decide) (by decide)
              have t86_ : (qN S34_73 (qO S34_73 (qO S34_73 p0 4) 7) : Int) = (qN S33_52 (qO S33_52 (qO S33_52 p0 4) 7) : Int) := by rw [o80_]; exact f74_.kL (j := 7) y4_ (y4_.ref p71_ k72_) (g.row (y4_.ref p71_ k72_)).1.2.2.2.2.2.1 (by decide) (by decide)
              have t87_ : (qN S34_73 (qO S34_73 (qO S34_73 p0 4) 0) : Int) = (qN S33_52 (qO S33_52 (qO S33_52 p0 4) 0) : Int) := by rw [o80_]; exact f74_.kL (j := 0) y4_ (y4_.ref p71_ k72_) (g.row (y4_.ref p71_ k72_)).1.1 (by decide) (by decide)
              have t88_ : (qN S34_73 (qO S34_73 (qO S34_73 p0 4) 6) : Int) = (qN S33_52 (qO S33_52 (qO S33_52 p0 4) 6) : Int) := by rw [o80_]; exact f74_.kL (j := 6) y4_ (y4_.ref p71_ k72_) (g.row (y4_.ref p71_ k72_)).1.2.2.2.2.1 (by decide) (by decide)
              have t89_ : (qN S34_73 (qO S34_73 (qO S34_73 p0 4) 3) : Int) = (qN S33_52 (qO S33_52 (qO S33_52 p0 4) 3) : Int) := by rw [o80_]; exact f74_.kL (j := 3) y4_ (y4_.ref p71_ k72_) (g.row (y4_.ref p71_ k72_)).1.2.2.1 (by decide) (by decide)
              have t90_ : (qN S34_73 (qO S34_73 (qO S34_73 p0 4) 5) : Int) = (qN S33_52 (qO S33_52 (qO S33_52 p0 4) 5) : Int) := by rw [o80_]; exact f74_.kL (j := 5) y4_ (y4_.ref p71_ k72_) (g.row (y4_.ref p71_ k72_)).1.2.2.2.1 (by decide) (by decide)
              have p91_ : qR S34_73 p0 4 = some (qO S34_73 p0 4) := f74_.kP k72_ p71_ (by decide) (by decide)
              have k92_ : qT S34_73 p0 = 44 := f74_.1.T k72_ (by decide)
              have t93_ : (qI S34_73 p0 6).toInt = (1 : Int32).toInt := by rw [eS34_73, qI_wI, if_pos ⟨rfl, rfl⟩]
              have g : ShC B S34_73 := ShC.ws y4_ g f74_ (by rw [eS34_73]; rfl) (by rw [eS34_73]; rfl) (by rw [eS34_73]; rfl) rfl rfl
              exact ⟨g, trivial⟩
            · exact ⟨g, trivial⟩
set_option maxRecDepth 100000 in
theorem sg_X4_spread_L195 {B : Nat × Nat} : ∀ (n : Nat) {U195 : MS} {v195_0 : Nat} {v195_1 : Int32} {v195_5 : Int32} {v195_8 : Int32}, ShC B U195 → qR U195 v195_0 3 = some (qO U195 v195_0 3) → qR U195 v195_0 4 = some (qO U195 v195_0 4) → 0 ≤ v195_8.toInt → 0 ≤ v195_1.toInt → v195_1.toInt < (qN U195 (qO U195 v195_0 0) : Int) → 2147483648 - v195_8.toInt < n → w_X4_spread_L195 (fun u => ShC B u ∧ (True)) n U195 v195_0 v195_1 v195_5 v195_8 := by
  intro n
  induction n with
  | zero => intro U195 v195_0 v195_1 v195_5 v195_8 g h0_ h1_ j0_ j1_ j2_ hm_; exfalso; have := rgI v195_1; have := rgI v195_5; have := rgI v195_8; omega
  | succ n ih195 =>
    intro U195 v195_0 v195_1 v195_5 v195_8 g h0_ h1_ j0_ j1_ j2_ hm_
    unfold w_X4_spread_L195
    intro y1_ y2_ y3_
    refine ⟨fun c0_ => ?_, fun c0_ => ?_⟩
    · exact ⟨g, trivial⟩
    · refine ⟨?_, ?_⟩
      · exact h1_
      refine ⟨fun c1_ => ?_, fun c1_ => ?_⟩
      · exact ⟨g, trivial⟩
      · refine ⟨?_, ?_⟩
        · exact h1_
        refine ⟨?_, ?_⟩
        · exact (dd_X8_catchHas y1_ g (y1_.ref h1_ y2_))
        intro a65_2 ea65_2 
        have ga65_2 := congrArg Int32.toInt ea65_2
        refine ⟨fun c3_ => ?_, fun c3_ => ?_⟩
        · unfold w_X4_spread_J240
          intro y4_ y5_ y6_
          intro a66_4 ea66_4 
          have ga66_4 := congrArg Int32.toInt ea66_4
          refine ih195 g h0_ h1_ ?_ ?_ ?_ ?_
          · have s5_ := (g.hts y5_).2
            have s6_ := y4_.len9 (y4_.ref (g.hts y5_).1.1 y5_) (by decide)
            have s7_ := y4_.len9 (y4_.ref (g.hts y5_).1.2.1 y5_) (by decide)
            have s8_ := y4_.len9 (y4_.ref (g.hts y5_).1.2.2 y5_) (by decide)
            have s9_ := (g.row (y4_.ref h1_ y5_)).2
            have n1_ := rgI a66_4
            have n2_ := rgI v195_8
            have n3_ := rgI v195_1
            have n4_ := rgI v195_5
            have n5_ := rgI (qI U195 (qO U195 v195_0 4) 9)
            have n6_ := rgI a65_2
            have n7_ := rgI (fX8_catchHas U195 (qO U195 v195_0 4) v195_8 v195_1)
            have n9_ := lo_1k
            have n9_ := t_addD (a := v195_8) (b := Int32.ofInt 1)
            have n10_ := rgI (v195_8 + Int32.ofInt 1)
            omega
          · have s10_ := (g.hts y5_).2
            have s11_ := y4_.len9 (y4_.ref (g.hts y5_).1.1 y5_) (by decide)
            have s12_ := y4_.len9 (y4_.ref (g.hts y5_).1.2.1 y5_) (by decide)
            have s13_ := y4_.len9 (y4_.ref (g.hts y5_).1.2.2 y5_) (by decide)
            have s14_ := (g.row (y4_.ref h1_ y5_)).2
            have n1_ := rgI v195_1
            have n2_ := rgI v195_8
            have n3_ := rgI v195_5
            have n4_ := rgI (qI U195 (qO U195 v195_0 4) 9)
            have n5_ := rgI a65_2
            have n6_ := rgI (fX8_catchHas U195 (qO U195 v195_0 4) v195_8 v195_1)
            have n7_ := rgI a66_4
            have n9_ := lo_1k
            have n9_ := t_addD (a := v195_8) (b := Int32.ofInt 1)
            have n10_ := rgI (v195_8 + Int32.ofInt 1)
            omega
          · have s15_ := (g.hts y5_).2
            have s16_ := y4_.len9 (y4_.ref (g.hts y5_).1.1 y5_) (by decide)
            have s17_ := y4_.len9 (y4_.ref (g.hts y5_).1.2.1 y5_) (by decide)
            have s18_ := y4_.len9 (y4_.ref (g.hts y5_).1.2.2 y5_) (by decide)
            have s19_ := (g.row (y4_.ref h1_ y5_)).2
            have n1_ := rgI v195_1
            have n2_ := rgI v195_8
            have n3_ := rgI v195_5
            have n4_ := rgI (qI U195 (qO U195 v195_0 4) 9)
            have n5_ := rgI a65_2
            have n6_ := rgI (fX8_catchHas U195 (qO U195 v195_0 4) v195_8 v195_1)
            have n7_ := rgI a66_4
            have n9_ := lo_1k
            have n9_ := t_addD (a := v195_8) (b := Int32.ofInt 1)
            have n10_ := rgI (v195_8 + Int32.ofInt 1)
            omega
          · have s20_ := (g.hts y5_).2
            have s21_ := y4_.len9 (y4_.ref (g.hts y5_).1.1 y5_) (by decide)
            have s22_ := y4_.len9 (y4_.ref (g.hts y5_).1.2.1 y5_) (by decide)
            have s23_ := y4_.len9 (y4_.ref (g.hts y5_).1.2.2 y5_) (by decide)
            have s24_ := (g.row (y4_.ref h1_ y5_)).2
            have n1_ := rgI a66_4
            have n2_ := rgI v195_8
            have n3_ := rgI v195_1
            have n4_ := rgI v195_5
            have n5_ := rgI (qI U195 (qO U195 v195_0 4) 9)
            have n6_ := rgI a65_2
            have n7_ := rgI (fX8_catchHas U195 (qO U195 v195_0 4) v195_8 v195_1)
            have n9_ := lo_1k
            have n9_ := t_addD (a := v195_8) (b := Int32.ofInt 1)
            have n10_ := rgI (v195_8 + Int32.ofInt 1)
            omega
        · refine ⟨?_, ?_⟩
          · exact h1_
          refine ⟨?_, ?_⟩
          · exact (g.row (y1_.ref h1_ y2_)).1.2.2.2.2.2.1
          refine ⟨?_, ?_⟩
          · have s25_ := (g.hts y2_).2
            have s26_ := y1_.len9 (y1_.ref (g.hts y2_).1.1 y2_) (by decide)
            have s27_ := y1_.len9 (y1_.ref (g.hts y2_).1.2.1 y2_) (by decide)
            have s28_ := y1_.len9 (y1_.ref (g.hts y2_).1.2.2 y2_) (by decide)
            have s29_ := (g.row (y1_.ref h1_ y2_)).2
            have n1_ := rgI v195_8
            have n2_ := rgI v195_1
            have n3_ := rgI v195_5
            have n4_ := rgI (qI U195 (qO U195 v195_0 4) 9)
            have n5_ := rgI a65_2
            have n6_ := rgI (fX8_catchHas U195 (qO U195 v195_0 4) v195_8 v195_1)
            omega
          intro y7_
          refine ⟨_, frX4_comeTo y1_ (sgX4_comeTo y1_ g y7_ h1_), ?_⟩
          intro S75_30 q8_ y9_ y10_
          have t31_ : (qI S75_30 v195_0 7).toInt = (qI U195 v195_0 7).toInt := congrArg Int32.toInt (q8_.2.kI (j := 7) y7_ (by decide) (by decide))
          have t32_ : (qI S75_30 v195_0 5).toInt = (qI U195 v195_0 5).toInt := congrArg Int32.toInt (q8_.2.kI (j := 5) y7_ (by decide) (by decide))
          have t33_ : (qN S75_30 (qO S75_30 v195_0 1) : Int) = (qN U195 (qO U195 v195_0 1) : Int) := q8_.2.kL (j := 1) y1_ y7_ (g.hts y7_).1.2.1 (by decide) (by decide)
          have t34_ : (qN S75_30 (qO S75_30 v195_0 0) : Int) = (qN U195 (qO U195 v195_0 0) : Int) := q8_.2.kL (j := 0) y1_ y7_ (g.hts y7_).1.1 (by decide) (by decide)
          have t35_ : (qN S75_30 (qO S75_30 v195_0 2) : Int) = (qN U195 (qO U195 v195_0 2) : Int) := q8_.2.kL (j := 2) y1_ y7_ (g.hts y7_).1.2.2 (by decide) (by decide)
          have o36_ : qO S75_30 v195_0 4 = qO U195 v195_0 4 := qO_eq (q8_.2.kO y7_ (by decide) (by decide))
          have t37_ : (qI S75_30 (qO S75_30 v195_0 4) 4).toInt = (qI U195 (qO U195 v195_0 4) 4).toInt := by rw [o36_]; exact congrArg Int32.toInt (q8_.2.kI (j := 4) (y1_.ref h1_ y7_) (by decide) (by decide))
          have t38_ : (qI S75_30 (qO S75_30 v195_0 4) 9).toInt = (qI U195 (qO U195 v195_0 4) 9).toInt := by rw [o36_]; exact congrArg Int32.toInt (q8_.2.kI (j := 9) (y1_.ref h1_ y7_) (by decide) (by decide))
          have t39_ : (qI S75_30 (qO S75_30 v195_0 4) 2).toInt = (qI U195 (qO U195 v195_0 4) 2).toInt := by rw [o36_]; exact congrArg Int32.toInt (q8_.2.kI (j := 2) (y1_.ref h1_ y7_) (by decide) (by decide))
          have t40_ : (qN S75_30 (qO S75_30 (qO S75_30 v195_0 4) 1) : Int) = (qN U195 (qO U195 (qO U195 v195_0 4) 1) : Int) := by rw [o36_]; exact q8_.2.kL (j := 1) y1_ (y1_.ref h1_ y7_) (g.row (y1_.ref h1_ y7_)).1.2.1 (by decide) (by decide)
          have t41_ : (qN S75_30 (qO S75_30 (qO S75_30 v195_0 4) 8) : Int) = (qN U195 (qO U195 (qO U195 v195_0 4) 8) : Int) := by rw [o36_]; exact q8_.2.kL (j := 8) y1_ (y1_.ref h1_ y7_) (g.row (y1_.ref h1_ y7_)).1.2.2.2.2.2.2 (by decide) (by decide)
          have t42_ : (qN S75_30 (qO S75_30 (qO S75_30 v195_0 4) 7) : Int) = (qN U195 (qO U195 (qO U195 v195_0 4) 7) : Int) := by rw [o36_]; exact q8_.2.kL (j := 7) y1_ (y1_.ref h1_ y7_) (g.row (y1_.ref h1_ y7_)).1.2.2.2.2.2.1 (by decide) (by decide)
          have t43_ : (qN S75_30 (qO S75_30 (qO S75_30 v195_0 4) 0) : Int) = (qN U195 (qO U195 (qO U195 v195_0 4) 0) : Int) := by rw [o36_]; exact q8_.2.kL (j := 0) y1_ (y1_.ref h1_ y7_) (g.row (y1_.ref h1_ y7_)).1.1 (by decide) (by decide)
          have t44_ : (qN S75_30 (qO S75_30 (qO S75_30 v195_0 4) 6) : Int) = (qN U195 (qO U195 (qO U195 v195_0 4) 6) : Int) := by rw [o36_]; exact q8_.2.kL (j := 6) y1_ (y1_.ref h1_ y7_) (g.row (y1_.ref h1_ y7_)).1.2.2.2.2.1 (by decide) (by decide)
          have t45_ : (qN S75_30 (qO S75_30 (qO S75_30 v195_0 4) 3) : Int) = (qN U195 (qO U195 (qO U195 v195_0 4) 3) : Int) := by rw [o36_]; exact q8_.2.kL (j := 3) y1_ (y1_.ref h1_ y7_) (g.row (y1_.ref h1_ y7_)).1.2.2.1 (by decide) (by decide)
          have t46_ : (qN S75_30 (qO S75_30 (qO S75_30 v195_0 4) 5) : Int) = (qN U195 (qO U195 (qO U195 v195_0 4) 5) : Int) := by rw [o36_]; exact q8_.2.kL (j := 5) y1_ (y1_.ref h1_ y7_) (g.row (y1_.ref h1_ y7_)).1.2.2.2.1 (by decide) (by decide)
          have p47_ : qR S75_30 v195_0 3 = some (qO S75_30 v195_0 3) := q8_.2.kP y7_ h0_ (by decide) (by decide)
          have p48_ : qR S75_30 v195_0 4 = some (qO S75_30 v195_0 4) := q8_.2.kP y7_ h1_ (by decide) (by decide)
          have k49_ : qT S75_30 v195_0 = 44 := q8_.2.1.T y7_ (by decide)
          have g : ShC B S75_30 := q8_.1.1
          unfold w_X4_spread_J240
          intro y11_ y12_ y13_
          intro a66_50 ea66_50 
          have ga66_50 := congrArg Int32.toInt ea66_50
          refine ih195 g p47_ p48_ ?_ ?_ ?_ ?_
          · have s51_ := (g.hts y12_).2
            have s52_ := y11_.len9 (y11_.ref (g.hts y12_).1.1 y12_) (by decide)
            have s53_ := y11_.len9 (y11_.ref (g.hts y12_).1.2.1 y12_) (by decide)
            have s54_ := y11_.len9 (y11_.ref (g.hts y12_).1.2.2 y12_) (by decide)
            have s55_ := (g.row (y11_.ref p48_ y12_)).2
            have n1_ := rgI a66_50
            have n2_ := rgI v195_8
            have n3_ := rgI v195_1
            have n4_ := rgI v195_5
            have n5_ := rgI (qI U195 (qO U195 v195_0 4) 9)
            have n6_ := rgI a65_2
            have n7_ := rgI (fX8_catchHas U195 (qO U195 v195_0 4) v195_8 v195_1)
            have n9_ := lo_1k
            have n9_ := t_addD (a := v195_8) (b := Int32.ofInt 1)
            have n10_ := rgI (v195_8 + Int32.ofInt 1)
            omega
          · have s56_ := (g.hts y12_).2
            have s57_ := y11_.len9 (y11_.ref (g.hts y12_).1.1 y12_) (by decide)
            have s58_ := y11_.len9 (y11_.ref (g.hts y12_).1.2.1 y12_) (by decide)
            have s59_ := y11_.len9 (y11_.ref (g.hts y12_).1.2.2 y12_) (by decide)
            have s60_ := (g.row (y11_.ref p48_ y12_)).2
            have n1_ := rgI v195_1
            have n2_ := rgI v195_8
            have n3_ := rgI v195_5
            have n4_ := rgI (qI U195 (qO U195 v195_0 4) 9)
            have n5_ := rgI a65_2
            have n6_ := rgI (fX8_catchHas U195 (qO U195 v195_0 4) v195_8 v195_1)
            have n7_ := rgI a66_50
            have n9_ := lo_1k
            have n9_ := t_addD (a := v195_8) (b := Int32.ofInt 1)
            have n10_ := rgI (v195_8 + Int32.ofInt 1)
            omega
          · have s61_ := (g.hts y12_).2
            have s62_ := y11_.len9 (y11_.ref (g.hts y12_).1.1 y12_) (by decide)
            have s63_ := y11_.len9 (y11_.ref (g.hts y12_).1.2.1 y12_) (by decide)
            have s64_ := y11_.len9 (y11_.ref (g.hts y12_).1.2.2 y12_) (by decide)
            have s65_ := (g.row (y11_.ref p48_ y12_)).2
            have n1_ := rgI v195_1
            have n2_ := rgI v195_8
            have n3_ := rgI v195_5
            have n4_ := rgI (qI U195 (qO U195 v195_0 4) 9)
            have n5_ := rgI a65_2
            have n6_ := rgI (fX8_catchHas U195 (qO U195 v195_0 4) v195_8 v195_1)
            have n7_ := rgI a66_50
            have n9_ := lo_1k
            have n9_ := t_addD (a := v195_8) (b := Int32.ofInt 1)
            have n10_ := rgI (v195_8 + Int32.ofInt 1)
            omega
          · have s66_ := (g.hts y12_).2
            have s67_ := y11_.len9 (y11_.ref (g.hts y12_).1.1 y12_) (by decide)
            have s68_ := y11_.len9 (y11_.ref (g.hts y12_).1.2.1 y12_) (by decide)
            have s69_ := y11_.len9 (y11_.ref (g.hts y12_).1.2.2 y12_) (by decide)
            have s70_ := (g.row (y11_.ref p48_ y12_)).2
            have n1_ := rgI a66_50
            have n2_ := rgI v195_8
            have n3_ := rgI v195_1
            have n4_ := rgI v195_5
            have n5_ := rgI (qI U195 (qO U195 v195_0 4) 9)
            have n6_ := rgI a65_2
            have n7_ := rgI (fX8_catchHas U195 (qO U195 v195_0 4) v195_8 v195_1)
            have n9_ := lo_1k
            have n9_ := t_addD (a := v195_8) (b := Int32.ofInt 1)
            have n10_ := rgI (v195_8 + Int32.ofInt 1)
            omega
set_option maxRecDepth 100000 in
theorem sg_X4_spread_L163 {B : Nat × Nat} : ∀ (n : Nat) {U163 : MS} {v163_0 : Nat} {v163_1 : Int32} {v163_4 : Int32} {v163_5 : Int32} {v163_7 : Int32} {v163_8 : Int32}, ShC B U163 → qR U163 v163_0 3 = some (qO U163 v163_0 3) → qR U163 v163_0 4 = some (qO U163 v163_0 4) → 0 ≤ v163_8.toInt → 0 ≤ v163_1.toInt → v163_1.toInt < (qN U163 (qO U163 v163_0 0) : Int) → 2147483648 - v163_8.toInt < n → w_X4_spread_L163 (fun u => ShC B u ∧ (True)) n U163 v163_0 v163_1 v163_4 v163_5 v163_7 v163_8 := by
  intro n
  induction n with
  | zero => intro U163 v163_0 v163_1 v163_4 v163_5 v163_7 v163_8 g h0_ h1_ j0_ j1_ j2_ hm_; exfalso; have := rgI v163_1; have := rgI v163_4; have := rgI v163_5; have := rgI v163_7; have := rgI v163_8; omega
  | succ n ih163 =>
    intro U163 v163_0 v163_1 v163_4 v163_5 v163_7 v163_8 g h0_ h1_ j0_ j1_ j2_ hm_
    unfold w_X4_spread_L163
    intro y14_ y15_ y16_
    refine ⟨fun c71_ => ?_, fun c71_ => ?_⟩
    · refine ⟨(2147483648 - (0 : Int32).toInt).toNat + 1, ?_⟩
      refine sg_X4_spread_L195  _ g h0_ h1_ ?_ ?_ ?_ ?_
      · have s72_ := (g.hts y15_).2
        have s73_ := y14_.len9 (y14_.ref (g.hts y15_).1.1 y15_) (by decide)
        have s74_ := y14_.len9 (y14_.ref (g.hts y15_).1.2.1 y15_) (by decide)
        have s75_ := y14_.len9 (y14_.ref (g.hts y15_).1.2.2 y15_) (by decide)
        have s76_ := (g.row (y14_.ref h1_ y15_)).2
        have n1_ := li_0k
        have n2_ := rgI v163_8
        have n3_ := rgI v163_1
        have n4_ := rgI v163_7
        omega
      · have s77_ := (g.hts y15_).2
        have s78_ := y14_.len9 (y14_.ref (g.hts y15_).1.1 y15_) (by decide)
        have s79_ := y14_.len9 (y14_.ref (g.hts y15_).1.2.1 y15_) (by decide)
        have s80_ := y14_.len9 (y14_.ref (g.hts y15_).1.2.2 y15_) (by decide)
        have s81_ := (g.row (y14_.ref h1_ y15_)).2
        have n1_ := rgI v163_1
        have n2_ := rgI v163_8
        have n3_ := rgI v163_7
        omega
      · have s82_ := (g.hts y15_).2
        have s83_ := y14_.len9 (y14_.ref (g.hts y15_).1.1 y15_) (by decide)
        have s84_ := y14_.len9 (y14_.ref (g.hts y15_).1.2.1 y15_) (by decide)
        have s85_ := y14_.len9 (y14_.ref (g.hts y15_).1.2.2 y15_) (by decide)
        have s86_ := (g.row (y14_.ref h1_ y15_)).2
        have n1_ := rgI v163_1
        have n2_ := rgI v163_8
        have n3_ := rgI v163_7
        omega
      · have s87_ := (g.hts y15_).2
        have s88_ := y14_.len9 (y14_.ref (g.hts y15_).1.1 y15_) (by decide)
        have s89_ := y14_.len9 (y14_.ref (g.hts y15_).1.2.1 y15_) (by decide)
        have s90_ := y14_.len9 (y14_.ref (g.hts y15_).1.2.2 y15_) (by decide)
        have s91_ := (g.row (y14_.ref h1_ y15_)).2
        have n1_ := li_0k
        have n2_ := rgI v163_8
        have n3_ := rgI v163_1
        have n4_ := rgI v163_7
        omega
    · refine ⟨?_, ?_⟩
      · exact h1_
      refine ⟨?_, ?_⟩
      · exact (dd_X8_targetAt y14_ g (y14_.ref h1_ y15_))
      intro a82_92 ea82_92 
      have ga82_92 := congrArg Int32.toInt ea82_92
      intro y17_
      refine ⟨_, frX4_comeTo y14_ (sgX4_comeTo y14_ g y17_ h1_), ?_⟩
      intro S84_93 q18_ y19_ y20_
      have t94_ : (qI S84_93 v163_0 7).toInt = (qI U163 v163_0 7).toInt := congrArg Int32.toInt (q18_.2.kI (j := 7) y17_ (by decide) (by decide))
      have t95_ : (qI S84_93 v163_0 5).toInt = (qI U163 v163_0 5).toInt := congrArg Int32.toInt (q18_.2.kI (j := 5) y17_ (by decide) (by decide))
      have t96_ : (qN S84_93 (qO S84_93 v163_0 1) : Int) = (qN U163 (qO U163 v163_0 1) : Int) := q18_.2.kL (j := 1) y14_ y17_ (g.hts y17_).1.2.1 (by decide) (by decide)
      have t97_ : (qN S84_93 (qO S84_93 v163_0 0) : Int) = (qN U163 (qO U163 v163_0 0) : Int) := q18_.2.kL (j := 0) y14_ y17_ (g.hts y17_).1.1 (by decide) (by decide)
      have t98_ : (qN S84_93 (qO S84_93 v163_0 2) : Int) = (qN U163 (qO U163 v163_0 2) : Int) := q18_.2.kL (j := 2) y14_ y17_ (g.hts y17_).1.2.2 (by decide) (by decide)
      have o99_ : qO S84_93 v163_0 4 = qO U163 v163_0 4 := qO_eq (q18_.2.kO y17_ (by decide) (by decide))
      have t100_ : (qI S84_93 (qO S84_93 v163_0 4) 4).toInt = (qI U163 (qO U163 v163_0 4) 4).toInt := by rw [o99_]; exact congrArg Int32.toInt (q18_.2.kI (j := 4) (y14_.ref h1_ y17_) (by decide) (by decide))
      have t101_ : (qI S84_93 (qO S84_93 v163_0 4) 9).toInt = (qI U163 (qO U163 v163_0 4) 9).toInt := by rw [o99_]; exact congrArg Int32.toInt (q18_.2.kI (j := 9) (y14_.ref h1_ y17_) (by decide) (by decide))
      have t102_ : (qI S84_93 (qO S84_93 v163_0 4) 2).toInt = (qI U163 (qO U163 v163_0 4) 2).toInt := by rw [o99_]; exact congrArg Int32.toInt (q18_.2.kI (j := 2) (y14_.ref h1_ y17_) (by decide) (by decide))
      have t103_ : (qN S84_93 (qO S84_93 (qO S84_93 v163_0 4) 1) : Int) = (qN U163 (qO U163 (qO U163 v163_0 4) 1) : Int) := by rw [o99_]; exact q18_.2.kL (j := 1) y14_ (y14_.ref h1_ y17_) (g.row (y14_.ref h1_ y17_)).1.2.1 (by decide) (by decide)
      have t104_ : (qN S84_93 (qO S84_93 (qO S84_93 v163_0 4) 8) : Int) = (qN U163 (qO U163 (qO U163 v163_0 4) 8) : Int) := by rw [o99_]; exact q18_.2.kL (j := 8) y14_ (y14_.ref h1_ y17_) (g.row (y14_.ref h1_ y17_)).1.2.2.2.2.2.2 (by decide) (by decide)
      have t105_ : (qN S84_93 (qO S84_93 (qO S84_93 v163_0 4) 7) : Int) = (qN U163 (qO U163 (qO U163 v163_0 4) 7) : Int) := by rw [o99_]; exact q18_.2.kL (j := 7) y14_ (y14_.ref h1_ y17_) (g.row (y14_.ref h1_ y17_)).1.2.2.2.2.2.1 (by decide) (by decide)
      have t106_ : (qN S84_93 (qO S84_93 (qO S84_93 v163_0 4) 0) : Int) = (qN U163 (qO U163 (qO U163 v163_0 4) 0) : Int) := by rw [o99_]; exact q18_.2.kL (j := 0) y14_ (y14_.ref h1_ y17_) (g.row (y14_.ref h1_ y17_)).1.1 (by decide) (by decide)
      have t107_ : (qN S84_93 (qO S84_93 (qO S84_93 v163_0 4) 6) : Int) = (qN U163 (qO U163 (qO U163 v163_0 4) 6) : Int) := by rw [o99_]; exact q18_.2.kL (j := 6) y14_ (y14_.ref h1_ y17_) (g.row (y14_.ref h1_ y17_)).1.2.2.2.2.1 (by decide) (by decide)
      have t108_ : (qN S84_93 (qO S84_93 (qO S84_93 v163_0 4) 3) : Int) = (qN U163 (qO U163 (qO U163 v163_0 4) 3) : Int) := by rw [o99_]; exact q18_.2.kL (j := 3) y14_ (y14_.ref h1_ y17_) (g.row (y14_.ref h1_ y17_)).1.2.2.1 (by decide) (by decide)
      have t109_ : (qN S84_93 (qO S84_93 (qO S84_93 v163_0 4) 5) : Int) = (qN U163 (qO U163 (qO U163 v163_0 4) 5) : Int) := by rw [o99_]; exact q18_.2.kL (j := 5) y14_ (y14_.ref h1_ y17_) (g.row (y14_.ref h1_ y17_)).1.2.2.2.1 (by decide) (by decide)
      have p110_ : qR S84_93 v163_0 3 = some (qO S84_93 v163_0 3) := q18_.2.kP y17_ h0_ (by decide) (by decide)
      have p111_ : qR S84_93 v163_0 4 = some (qO S84_93 v163_0 4) := q18_.2.kP y17_ h1_ (by decide) (by decide)
      have k112_ : qT S84_93 v163_0 = 44 := q18_.2.1.T y17_ (by decide)
      have g : ShC B S84_93 := q18_.1.1
      intro a86_113 ea86_113 
      have ga86_113 := congrArg Int32.toInt ea86_113
      refine ih163 g p110_ p111_ ?_ ?_ ?_ ?_
      · have s114_ := (g.hts k112_).2
        have s115_ := y19_.len9 (y19_.ref (g.hts k112_).1.1 k112_) (by decide)
        have s116_ := y19_.len9 (y19_.ref (g.hts k112_).1.2.1 k112_) (by decide)
        have s117_ := y19_.len9 (y19_.ref (g.hts k112_).1.2.2 k112_) (by decide)
        have s118_ := (g.row (y19_.ref p111_ k112_)).2
        have n1_ := rgI a86_113
        have n2_ := rgI v163_8
        have n3_ := rgI v163_1
        have n4_ := rgI v163_7
        have n5_ := rgI a82_92
        have n6_ := rgI (fX8_targetAt U163 (qO U163 v163_0 4) v163_1 v163_8)
        have n8_ := lo_1k
        have n8_ := t_addD (a := v163_8) (b := Int32.ofInt 1)
        have n9_ := rgI (v163_8 + Int32.ofInt 1)
        omega
      · have s119_ := (g.hts k112_).2
        have s120_ := y19_.len9 (y19_.ref (g.hts k112_).1.1 k112_) (by decide)
        have s121_ := y19_.len9 (y19_.ref (g.hts k112_).1.2.1 k112_) (by decide)
        have s122_ := y19_.len9 (y19_.ref (g.hts k112_).1.2.2 k112_) (by decide)
        have s123_ := (g.row (y19_.ref p111_ k112_)).2
        have n1_ := rgI v163_1
        have n2_ := rgI v163_8
        have n3_ := rgI v163_7
        have n4_ := rgI a82_92
        have n5_ := rgI (fX8_targetAt U163 (qO U163 v163_0 4) v163_1 v163_8)
        have n6_ := rgI a86_113
        have n8_ := lo_1k
        have n8_ := t_addD (a := v163_8) (b := Int32.ofInt 1)
        have n9_ := rgI (v163_8 + Int32.ofInt 1)
        omega
      · have s124_ := (g.hts k112_).2
        have s125_ := y19_.len9 (y19_.ref (g.hts k112_).1.1 k112_) (by decide)
        have s126_ := y19_.len9 (y19_.ref (g.hts k112_).1.2.1 k112_) (by decide)
        have s127_ := y19_.len9 (y19_.ref (g.hts k112_).1.2.2 k112_) (by decide)
        have s128_ := (g.row (y19_.ref p111_ k112_)).2
        have n1_ := rgI v163_1
        have n2_ := rgI v163_8
        have n3_ := rgI v163_7
        have n4_ := rgI a82_92
        have n5_ := rgI (fX8_targetAt U163 (qO U163 v163_0 4) v163_1 v163_8)
        have n6_ := rgI a86_113
        have n8_ := lo_1k
        have n8_ := t_addD (a := v163_8) (b := Int32.ofInt 1)
        have n9_ := rgI (v163_8 + Int32.ofInt 1)
        omega
      · have s129_ := (g.hts k112_).2
        have s130_ := y19_.len9 (y19_.ref (g.hts k112_).1.1 k112_) (by decide)
        have s131_ := y19_.len9 (y19_.ref (g.hts k112_).1.2.1 k112_) (by decide)
        have s132_ := y19_.len9 (y19_.ref (g.hts k112_).1.2.2 k112_) (by decide)
        have s133_ := (g.row (y19_.ref p111_ k112_)).2
        have n1_ := rgI a86_113
        have n2_ := rgI v163_8
        have n3_ := rgI v163_1
        have n4_ := rgI v163_7
        have n5_ := rgI a82_92
        have n6_ := rgI (fX8_targetAt U163 (qO U163 v163_0 4) v163_1 v163_8)
        have n8_ := lo_1k
        have n8_ := t_addD (a := v163_8) (b := Int32.ofInt 1)
        have n9_ := rgI (v163_8 + Int32.ofInt 1)
        omega
set_option maxRecDepth 100000 in
theorem sgX4_spread {B : Nat × Nat} {S : MS} {p0 : Nat} {x1 : Int32} {x2 : Int32} (hw : wfC S) (g : ShC B S) (k_p0 : qT S p0 = 44) (qp0_ : qR S p0 3 = some (qO S p0 3)) (qp1_ : qR S p0 4 = some (qO S p0 4)) (a0_ : 0 ≤ x1.toInt) (a1_ : x1.toInt < (qN S (qO S p0 0) : Int)) : wX4_spread S p0 x1 x2 (fun u => ShC B u ∧ (True)) := by
  unfold wX4_spread
  refine ⟨?_, ?_⟩
  · exact qp0_
  refine ⟨?_, ?_⟩
  · exact qp1_
  refine ⟨?_, ?_⟩
  · exact (dd_X10_takes hw g (hw.ref qp0_ k_p0) (hw.ref qp1_ k_p0))
  intro a8_134 ea8_134 
  have ga8_134 := congrArg Int32.toInt ea8_134
  refine ⟨_, frX6_placesOf hw (sgX6_placesOf hw g), ?_⟩
  intro r10_135 S11_135 q21_ y22_ y23_
  have t136_ : (qI S11_135 p0 7).toInt = (qI S p0 7).toInt := congrArg Int32.toInt (q21_.2.kI (j := 7) k_p0 (by decide) (by decide))
  have t137_ : (qI S11_135 p0 6).toInt = (qI S p0 6).toInt := congrArg Int32.toInt (q21_.2.kI (j := 6) k_p0 (by decide) (by decide))
  have t138_ : (qI S11_135 p0 5).toInt = (qI S p0 5).toInt := congrArg Int32.toInt (q21_.2.kI (j := 5) k_p0 (by decide) (by decide))
  have t139_ : (qN S11_135 (qO S11_135 p0 1) : Int) = (qN S (qO S p0 1) : Int) := q21_.2.kL (j := 1) hw k_p0 (g.hts k_p0).1.2.1 (by decide) (by decide)
  have t140_ : (qN S11_135 (qO S11_135 p0 0) : Int) = (qN S (qO S p0 0) : Int) := q21_.2.kL (j := 0) hw k_p0 (g.hts k_p0).1.1 (by decide) (by decide)
  have t141_ : (qN S11_135 (qO S11_135 p0 2) : Int) = (qN S (qO S p0 2) : Int) := q21_.2.kL (j := 2) hw k_p0 (g.hts k_p0).1.2.2 (by decide) (by decide)
  have o142_ : qO S11_135 p0 3 = qO S p0 3 := qO_eq (q21_.2.kO k_p0 (by decide) (by decide))
  have t143_ : (qI S11_135 (qO S11_135 p0 3) 8).toInt = (qI S (qO S p0 3) 8).toInt := by rw [o142_]; exact congrArg Int32.toInt (q21_.2.kI (j := 8) (hw.ref qp0_ k_p0) (by decide) (by decide))
  have t144_ : (qI S11_135 (qO S11_135 p0 3) 4).toInt = (qI S (qO S p0 3) 4).toInt := by rw [o142_]; exact congrArg Int32.toInt (q21_.2.kI (j := 4) (hw.ref qp0_ k_p0) (by decide) (by decide))
  have t145_ : (qN S11_135 (qO S11_135 (qO S11_135 p0 3) 13) : Int) = (qN S (qO S (qO S p0 3) 13) : Int) := by rw [o142_]; exact q21_.2.kL (j := 13) hw (hw.ref qp0_ k_p0) (g.unit (hw.ref qp0_ k_p0)).1.2.2.2.2.2.2.2.2 (by decide) (by decide)
  have t146_ : (qN S11_135 (qO S11_135 (qO S11_135 p0 3) 9) : Int) = (qN S (qO S (qO S p0 3) 9) : Int) := by rw [o142_]; exact q21_.2.kL (j := 9) hw (hw.ref qp0_ k_p0) (g.unit (hw.ref qp0_ k_p0)).1.2.2.2.2.1 (by decide) (by decide)
  have t147_ : (qN S11_135 (qO S11_135 (qO S11_135 p0 3) 5) : Int) = (qN S (qO S (qO S p0 3) 5) : Int) := by rw [o142_]; exact q21_.2.kL (j := 5) hw (hw.ref qp0_ k_p0) (g.unit (hw.ref qp0_ k_p0)).1.2.1 (by decide) (by decide)
  have o148_ : qO S11_135 p0 4 = qO S p0 4 := qO_eq (q21_.2.kO k_p0 (by decide) (by decide))
  have t149_ : (qI S11_135 (qO S11_135 p0 4) 4).toInt = (qI S (qO S p0 4) 4).toInt := by rw [o148_]; exact congrArg Int32.toInt (q21_.2.kI (j := 4) (hw.ref qp1_ k_p0) (by decide) (by decide))
  have t150_ : (qI S11_135 (qO S11_135 p0 4) 9).toInt = (qI S (qO S p0 4) 9).toInt := by rw [o148_]; exact congrArg Int32.toInt (q21_.2.kI (j := 9) (hw.ref qp1_ k_p0) (by decide) (by decide))
  have t151_ : (qI S11_135 (qO S11_135 p0 4) 2).toInt = (qI S (qO S p0 4) 2).toInt := by rw [o148_]; exact congrArg Int32.toInt (q21_.2.kI (j := 2) (hw.ref qp1_ k_p0) (by decide) (by decide))
  have t152_ : (qN S11_135 (qO S11_135 (qO S11_135 p0 4) 1) : Int) = (qN S (qO S (qO S p0 4) 1) : Int) := by rw [o148_]; exact q21_.2.kL (j := 1) hw (hw.ref qp1_ k_p0) (g.row (hw.ref qp1_ k_p0)).1.2.1 (by decide) (by decide)
  have t153_ : (qN S11_135 (qO S11_135 (qO S11_135 p0 4) 8) : Int) = (qN S (qO S (qO S p0 4) 8) : Int) := by rw [o148_]; exact q21_.2.kL (j := 8) hw (hw.ref qp1_ k_p0) (g.row (hw.ref qp1_ k_p0)).1.2.2.2.2.2.2 (by decide) (by decide)
  have t154_ : (qN S11_135 (qO S11_135 (qO S11_135 p0 4) 7) : Int) = (qN S (qO S (qO S p0 4) 7) : Int) := by rw [o148_]; exact q21_.2.kL (j := 7) hw (hw.ref qp1_ k_p0) (g.row (hw.ref qp1_ k_p0)).1.2.2.2.2.2.1 (by decide) (by decide)
  have t155_ : (qN S11_135 (qO S11_135 (qO S11_135 p0 4) 0) : Int) = (qN S (qO S (qO S p0 4) 0) : Int) := by rw [o148_]; exact q21_.2.kL (j := 0) hw (hw.ref qp1_ k_p0) (g.row (hw.ref qp1_ k_p0)).1.1 (by decide) (by decide)
  have t156_ : (qN S11_135 (qO S11_135 (qO S11_135 p0 4) 6) : Int) = (qN S (qO S (qO S p0 4) 6) : Int) := by rw [o148_]; exact q21_.2.kL (j := 6) hw (hw.ref qp1_ k_p0) (g.row (hw.ref qp1_ k_p0)).1.2.2.2.2.1 (by decide) (by decide)
  have t157_ : (qN S11_135 (qO S11_135 (qO S11_135 p0 4) 3) : Int) = (qN S (qO S (qO S p0 4) 3) : Int) := by rw [o148_]; exact q21_.2.kL (j := 3) hw (hw.ref qp1_ k_p0) (g.row (hw.ref qp1_ k_p0)).1.2.2.1 (by decide) (by decide)
  have t158_ : (qN S11_135 (qO S11_135 (qO S11_135 p0 4) 5) : Int) = (qN S (qO S (qO S p0 4) 5) : Int) := by rw [o148_]; exact q21_.2.kL (j := 5) hw (hw.ref qp1_ k_p0) (g.row (hw.ref qp1_ k_p0)).1.2.2.2.1 (by decide) (by decide)
  have p159_ : qR S11_135 p0 3 = some (qO S11_135 p0 3) := q21_.2.kP k_p0 qp0_ (by decide) (by decide)
  have p160_ : qR S11_135 p0 4 = some (qO S11_135 p0 4) := q21_.2.kP k_p0 qp1_ (by decide) (by decide)
  have k161_ : qT S11_135 p0 = 44 := q21_.2.1.T k_p0 (by decide)
  have g : ShC B S11_135 := q21_.1.1
  have zq21_ : 0 ≤ r10_135.toInt ∧ r10_135.toInt ≤ 16 := q21_.1.2
  refine ⟨?_, ?_⟩
  · exact p159_
  refine ⟨?_, ?_⟩
  · exact p160_
  intro y24_ y25_
  refine ⟨_, frX10_placesGiven y22_ (sgX10_placesGiven y22_ g (y22_.ref p159_ k161_) (y22_.ref p160_ k161_)), ?_⟩
  intro r19_162 S20_162 q26_ y27_ y28_
  have t163_ : (qI S20_162 p0 7).toInt = (qI S11_135 p0 7).toInt := congrArg Int32.toInt (q26_.2.kI (j := 7) k161_ (by decide) (by decide))
  have t164_ : (qI S20_162 p0 6).toInt = (qI S11_135 p0 6).toInt := congrArg Int32.toInt (q26_.2.kI (j := 6) k161_ (by decide) (by decide))
  have t165_ : (qI S20_162 p0 5).toInt = (qI S11_135 p0 5).toInt := congrArg Int32.toInt (q26_.2.kI (j := 5) k161_ (by decide) (by decide))
  have t166_ : (qN S20_162 (qO S20_162 p0 1) : Int) = (qN S11_135 (qO S11_135 p0 1) : Int) := q26_.2.kL (j := 1) y22_ k161_ (g.hts k161_).1.2.1 (by decide) (by decide)
  have t167_ : (qN S20_162 (qO S20_162 p0 0) : Int) = (qN S11_135 (qO S11_135 p0 0) : Int) := q26_.2.kL (j := 0) y22_ k161_ (g.hts k161_).1.1 (by decide) (by decide)
  have t168_ : (qN S20_162 (qO S20_162 p0 2) : Int) = (qN S11_135 (qO S11_135 p0 2) : Int) := q26_.2.kL (j := 2) y22_ k161_ (g.hts k161_).1.2.2 (by decide) (by decide)
  have o169_ : qO S20_162 p0 3 = qO S11_135 p0 3 := qO_eq (q26_.2.kO k161_ (by decide) (by decide))
  have t170_ : (qI S20_162 (qO S20_162 p0 3) 8).toInt = (qI S11_135 (qO S11_135 p0 3) 8).toInt := by rw [o169_]; exact congrArg Int32.toInt (q26_.2.kI (j := 8) (y22_.ref p159_ k161_) (by decide) (by decide))
  have t171_ : (qI S20_162 (qO S20_162 p0 3) 4).toInt = (qI S11_135 (qO S11_135 p0 3) 4).toInt := by rw [o169_]; exact congrArg Int32.toInt (q26_.2.kI (j := 4) (y22_.ref p159_ k161_) (by decide) (by decide))
  have t172_ : (qN S20_162 (qO S20_162 (qO S20_162 p0 3) 13) : Int) = (qN S11_135 (qO S11_135 (qO S11_135 p0 3) 13) : Int) := by rw [o169_]; exact q26_.2.kL (j := 13) y22_ (y22_.ref p159_ k161_) (g.unit (y22_.ref p159_ k161_)).1.2.2.2.2.2.2.2.2 (by decide) (by decide)
  have t173_ : (qN S20_162 (qO S20_162 (qO S20_162 p0 3) 9) : Int) = (qN S11_135 (qO S11_135 (qO S11_135 p0 3) 9) : Int) := by rw [o169_]; exact q26_.2.kL (j := 9) y22_ (y22_.ref p159_ k161_) (g.unit (y22_.ref p159_ k161_)).1.2.2.2.2.1 (by decide) (by decide)
  have t174_ : (qN S20_162 (qO S20_162 (qO S20_162 p0 3) 5) : Int) = (qN S11_135 (qO S11_135 (qO S11_135 p0 3) 5) : Int) := by rw [o169_]; exact q26_.2.kL (j := 5) y22_ (y22_.ref p159_ k161_) (g.unit (y22_.ref p159_ k161_)).1.2.1 (by decide) (by decide)
  have o175_ : qO S20_162 p0 4 = qO S11_135 p0 4 := qO_eq (q26_.2.kO k161_ (by decide) (by decide))
  have t176_ : (qI S20_162 (qO S20_162 p0 4) 4).toInt = (qI S11_135 (qO S11_135 p0 4) 4).toInt := by rw [o175_]; exact congrArg Int32.toInt (q26_.2.kI (j := 4) (y22_.ref p160_ k161_) (by decide) (by decide))
  have t177_ : (qI S20_162 (qO S20_162 p0 4) 9).toInt = (qI S11_135 (qO S11_135 p0 4) 9).toInt := by rw [o175_]; exact congrArg Int32.toInt (q26_.2.kI (j := 9) (y22_.ref p160_ k161_) (by decide) (by decide))
  have t178_ : (qI S20_162 (qO S20_162 p0 4) 2).toInt = (qI S11_135 (qO S11_135 p0 4) 2).toInt := by rw [o175_]; exact congrArg Int32.toInt (q26_.2.kI (j := 2) (y22_.ref p160_ k161_) (by decide) (by decide))
  have t179_ : (qN S20_162 (qO S20_162 (qO S20_162 p0 4) 1) : Int) = (qN S11_135 (qO S11_135 (qO S11_135 p0 4) 1) : Int) := by rw [o175_]; exact q26_.2.kL (j := 1) y22_ (y22_.ref p160_ k161_) (g.row (y22_.ref p160_ k161_)).1.2.1 (by decide) (by decide)
  have t180_ : (qN S20_162 (qO S20_162 (qO S20_162 p0 4) 8) : Int) = (qN S11_135 (qO S11_135 (qO S11_135 p0 4) 8) : Int) := by rw [o175_]; exact q26_.2.kL (j := 8) y22_ (y22_.ref p160_ k161_) (g.row (y22_.ref p160_ k161_)).1.2.2.2.2.2.2 (by decide) (by decide)
  have t181_ : (qN S20_162 (qO S20_162 (qO S20_162 p0 4) 7) : Int) = (qN S11_135 (qO S11_135 (qO S11_135 p0 4) 7) : Int) := by rw [o175_]; exact q26_.2.kL (j := 7) y22_ (y22_.ref p160_ k161_) (g.row (y22_.ref p160_ k161_)).1.2.2.2.2.2.1 (by decide) (by decide)
  have t182_ : (qN S20_162 (qO S20_162 (qO S20_162 p0 4) 0) : Int) = (qN S11_135 (qO S11_135 (qO S11_135 p0 4) 0) : Int) := by rw [o175_]; exact q26_.2.kL (j := 0) y22_ (y22_.ref p160_ k161_) (g.row (y22_.ref p160_ k161_)).1.1 (by decide) (by decide)
  have t183_ : (qN S20_162 (qO S20_162 (qO S20_162 p0 4) 6) : Int) = (qN S11_135 (qO S11_135 (qO S11_135 p0 4) 6) : Int) := by rw [o175_]; exact q26_.2.kL (j := 6) y22_ (y22_.ref p160_ k161_) (g.row (y22_.ref p160_ k161_)).1.2.2.2.2.1 (by decide) (by decide)
  have t184_ : (qN S20_162 (qO S20_162 (qO S20_162 p0 4) 3) : Int) = (qN S11_135 (qO S11_135 (qO S11_135 p0 4) 3) : Int) := by rw [o175_]; exact q26_.2.kL (j := 3) y22_ (y22_.ref p160_ k161_) (g.row (y22_.ref p160_ k161_)).1.2.2.1 (by decide) (by decide)
  have t185_ : (qN S20_162 (qO S20_162 (qO S20_162 p0 4) 5) : Int) = (qN S11_135 (qO S11_135 (qO S11_135 p0 4) 5) : Int) := by rw [o175_]; exact q26_.2.kL (j := 5) y22_ (y22_.ref p160_ k161_) (g.row (y22_.ref p160_ k161_)).1.2.2.2.1 (by decide) (by decide)
  have p186_ : qR S20_162 p0 3 = some (qO S20_162 p0 3) := q26_.2.kP k161_ p159_ (by decide) (by decide)
  have p187_ : qR S20_162 p0 4 = some (qO S20_162 p0 4) := q26_.2.kP k161_ p160_ (by decide) (by decide)
  have k188_ : qT S20_162 p0 = 44 := q26_.2.1.T k161_ (by decide)
  have g : ShC B S20_162 := q26_.1.1
  have zq26_ : 0 ≤ r19_162.toInt ∧ r19_162.toInt ≤ 16 := q26_.1.2
  intro a23_189 ea23_189 
  have ga23_189 := congrArg Int32.toInt ea23_189
  refine ⟨?_, ?_⟩
  · exact p187_
  intro y29_
  refine ⟨_, frX8_isCaught y27_ (sgX8_isCaught y27_ g (y27_.ref p187_ k188_)), ?_⟩
  intro r27_190 S28_190 q30_ y31_ y32_
  have t191_ : (qI S28_190 p0 7).toInt = (qI S20_162 p0 7).toInt := congrArg Int32.toInt (q30_.2.kI (j := 7) k188_ (by decide) (by decide))
  have t192_ : (qI S28_190 p0 6).toInt = (qI S20_162 p0 6).toInt := congrArg Int32.toInt (q30_.2.kI (j := 6) k188_ (by decide) (by decide))
  have t193_ : (qI S28_190 p0 5).toInt = (qI S20_162 p0 5).toInt := congrArg Int32.toInt (q30_.2.kI (j := 5) k188_ (by decide) (by decide))
  have t194_ : (qN S28_190 (qO S28_190 p0 1) : Int) = (qN S20_162 (qO S20_162 p0 1) : Int) := q30_.2.kL (j := 1) y27_ k188_ (g.hts k188_).1.2.1 (by decide) (by decide)
  have t195_ : (qN S28_190 (qO S28_190 p0 0) : Int) = (qN S20_162 (qO S20_162 p0 0) : Int) := q30_.2.kL (j := 0) y27_ k188_ (g.hts k188_).1.1 (by decide) (by decide)
  have t196_ : (qN S28_190 (qO S28_190 p0 2) : Int) = (qN S20_162 (qO S20_162 p0 2) : Int) := q30_.2.kL (j := 2) y27_ k188_ (g.hts k188_).1.2.2 (by decide) (by decide)
  have o197_ : qO S28_190 p0 3 = qO S20_162 p0 3 := qO_eq (q30_.2.kO k188_ (by decide) (by decide))
  have t198_ : (qI S28_190 (qO S28_190 p0 3) 8).toInt = (qI S20_162 (qO S20_162 p0 3) 8).toInt := by rw [o197_]; exact congrArg Int32.toInt (q30_.2.kI (j := 8) (y27_.ref p186_ k188_) (by decide) (by decide))
  have t199_ : (qI S28_190 (qO S28_190 p0 3) 4).toInt = (qI S20_162 (qO S20_162 p0 3) 4).toInt := by rw [o197_]; exact congrArg Int32.toInt (q30_.2.kI (j := 4) (y27_.ref p186_ k188_) (by decide) (by decide))
  have t200_ : (qN S28_190 (qO S28_190 (qO S28_190 p0 3) 13) : Int) = (qN S20_162 (qO S20_162 (qO S20_162 p0 3) 13) : Int) := by rw [o197_]; exact q30_.2.kL (j := 13) y27_ (y27_.ref p186_ k188_) (g.unit (y27_.ref p186_ k188_)).1.2.2.2.2.2.2.2.2 (by decide) (by decide)
  have t201_ : (qN S28_190 (qO S28_190 (qO S28_190 p0 3) 9) : Int) = (qN S20_162 (qO S20_162 (qO S20_162 p0 3) 9) : Int) := by rw [o197_]; exact q30_.2.kL (j := 9) y27_ (y27_.ref p186_ k188_) (g.unit (y27_.ref p186_ k188_)).1.2.2.2.2.1 (by decide) (by decide)
  have t202_ : (qN S28_190 (qO S28_190 (qO S28_190 p0 3) 5) : Int) = (qN S20_162 (qO S20_162 (qO S20_162 p0 3) 5) : Int) := by rw [o197_]; exact q30_.2.kL (j := 5) y27_ (y27_.ref p186_ k188_) (g.unit (y27_.ref p186_ k188_)).1.2.1 (by decide) (by decide)
  have o203_ : qO S28_190 p0 4 = qO S20_162 p0 4 := qO_eq (q30_.2.kO k188_ (by decide) (by decide))
  have t204_ : (qI S28_190 (qO S28_190 p0 4) 4).toInt = (qI S20_162 (qO S20_162 p0 4) 4).toInt := by rw [o203_]; exact congrArg Int32.toInt (q30_.2.kI (j := 4) (y27_.ref p187_ k188_) (by decide) (by decide))
  have t205_ : (qI S28_190 (qO S28_190 p0 4) 9).toInt = (qI S20_162 (qO S20_162 p0 4) 9).toInt := by rw [o203_]; exact congrArg Int32.toInt (q30_.2.kI (j := 9) (y27_.ref p187_ k188_) (by decide) (by decide))
  have t206_ : (qI S28_190 (qO S28_190 p0 4) 2).toInt = (qI S20_162 (qO S20_162 p0 4) 2).toInt := by rw [o203_]; exact congrArg Int32.toInt (q30_.2.kI (j := 2) (y27_.ref p187_ k188_) (by decide) (by decide))
  have t207_ : (qN S28_190 (qO S28_190 (qO S28_190 p0 4) 1) : Int) = (qN S20_162 (qO S20_162 (qO S20_162 p0 4) 1) : Int) := by rw [o203_]; exact q30_.2.kL (j := 1) y27_ (y27_.ref p187_ k188_) (g.row (y27_.ref p187_ k188_)).1.2.1 (by decide) (by decide)
  have t208_ : (qN S28_190 (qO S28_190 (qO S28_190 p0 4) 8) : Int) = (qN S20_162 (qO S20_162 (qO S20_162 p0 4) 8) : Int) := by rw [o203_]; exact q30_.2.kL (j := 8) y27_ (y27_.ref p187_ k188_) (g.row (y27_.ref p187_ k188_)).1.2.2.2.2.2.2 (by decide) (by decide)
  have t209_ : (qN S28_190 (qO S28_190 (qO S28_190 p0 4) 7) : Int) = (qN S20_162 (qO S20_162 (qO S20_162 p0 4) 7) : Int) := by rw [o203_]; exact q30_.2.kL (j := 7) y27_ (y27_.ref p187_ k188_) (g.row (y27_.ref p187_ k188_)).1.2.2.2.2.2.1 (by decide) (by decide)
  have t210_ : (qN S28_190 (qO S28_190 (qO S28_190 p0 4) 0) : Int) = (qN S20_162 (qO S20_162 (qO S20_162 p0 4) 0) : Int) := by rw [o203_]; exact q30_.2.kL (j := 0) y27_ (y27_.ref p187_ k188_) (g.row (y27_.ref p187_ k188_)).1.1 (by decide) (by decide)
  have t211_ : (qN S28_190 (qO S28_190 (qO S28_190 p0 4) 6) : Int) = (qN S20_162 (qO S20_162 (qO S20_162 p0 4) 6) : Int) := by rw [o203_]; exact q30_.2.kL (j := 6) y27_ (y27_.ref p187_ k188_) (g.row (y27_.ref p187_ k188_)).1.2.2.2.2.1 (by decide) (by decide)
  have t212_ : (qN S28_190 (qO S28_190 (qO S28_190 p0 4) 3) : Int) = (qN S20_162 (qO S20_162 (qO S20_162 p0 4) 3) : Int) := by rw [o203_]; exact q30_.2.kL (j := 3) y27_ (y27_.ref p187_ k188_) (g.row (y27_.ref p187_ k188_)).1.2.2.1 (by decide) (by decide)
  have t213_ : (qN S28_190 (qO S28_190 (qO S28_190 p0 4) 5) : Int) = (qN S20_162 (qO S20_162 (qO S20_162 p0 4) 5) : Int) := by rw [o203_]; exact q30_.2.kL (j := 5) y27_ (y27_.ref p187_ k188_) (g.row (y27_.ref p187_ k188_)).1.2.2.2.1 (by decide) (by decide)
  have p214_ : qR S28_190 p0 3 = some (qO S28_190 p0 3) := q30_.2.kP k188_ p186_ (by decide) (by decide)
  have p215_ : qR S28_190 p0 4 = some (qO S28_190 p0 4) := q30_.2.kP k188_ p187_ (by decide) (by decide)
  have k216_ : qT S28_190 p0 = 44 := q30_.2.1.T k188_ (by decide)
  have g : ShC B S28_190 := q30_.1.1
  refine ⟨?_, ?_⟩
  · exact p215_
  refine ⟨?_, ?_⟩
  · exact (dd_X8_opAt y31_ g (y31_.ref p215_ k216_))
  intro a35_217 ea35_217 
  have ga35_217 := congrArg Int32.toInt ea35_217
  refine ⟨?_, ?_⟩
  · exact dd_X6_goesOn
  intro a39_218 ea39_218 
  have ga39_218 := congrArg Int32.toInt ea39_218
  refine ⟨fun c219_ => ?_, fun c219_ => ?_⟩
  · unfold w_X4_spread_J102
    intro y33_ y34_
    refine ⟨?_, ?_⟩
    · exact (g.hts y34_).1.2.2
    refine ⟨?_, ?_⟩
    · have s220_ := (g.hts y34_).2
      have s221_ := y33_.len9 (y33_.ref (g.hts y34_).1.1 y34_) (by decide)
      have s222_ := y33_.len9 (y33_.ref (g.hts y34_).1.2.1 y34_) (by decide)
      have s223_ := y33_.len9 (y33_.ref (g.hts y34_).1.2.2 y34_) (by decide)
      have s224_ := (g.unit (y33_.ref p214_ y34_)).2
      have s225_ := (g.row (y33_.ref p215_ y34_)).2
      have n1_ := rgI x1
      have n2_ := rgI a8_134
      have n3_ := rgI (fX10_takes S (qO S p0 3) (qO S p0 4) x1)
      have n4_ := rgI r10_135
      have n5_ := rgI r19_162
      have n6_ := rgI a23_189
      have n9_ := rgI x2
      have n9_ := t_subD (a := x2) (b := r10_135)
      have n10_ := rgI (x2 - r10_135)
      have n10_ := t_addD (a := (x2 - r10_135)) (b := r19_162)
      have n11_ := rgI ((x2 - r10_135) + r19_162)
      have n12_ := rgI a35_217
      have n13_ := rgI (fX8_opAt S28_190 (qO S28_190 p0 4) x1)
      have n14_ := rgI a39_218
      have n15_ := rgI (fX6_goesOn S28_190 a35_217)
      omega
    intro S43_226 eS43_226 y35_ y36_
    have f227_ : cfr [304] [] S28_190 S43_226 := by rw [eS43_226]; exact cfr.aI y35_ (by decide)
    have t228_ : (qI S43_226 p0 7).toInt = (qI S28_190 p0 7).toInt := congrArg Int32.toInt (f227_.kI (j := 7) y34_ (by decide) (by decide))
    have t229_ : (qI S43_226 p0 6).toInt = (qI S28_190 p0 6).toInt := congrArg Int32.toInt (f227_.kI (j := 6) y34_ (by decide) (by decide))
    have t230_ : (qI S43_226 p0 5).toInt = (qI S28_190 p0 5).toInt := congrArg Int32.toInt (f227_.kI (j := 5) y34_ (by decide) (by decide))
    have t231_ : (qN S43_226 (qO S43_226 p0 1) : Int) = (qN S28_190 (qO S28_190 p0 1) : Int) := f227_.kL (j := 1) y33_ y34_ (g.hts y34_).1.2.1 (by decide) (by decide)
    have t232_ : (qN S43_226 (qO S43_226 p0 0) : Int) = (qN S28_190 (qO S28_190 p0 0) : Int) := f227_.kL (j := 0) y33_ y34_ (g.hts y34_).1.1 (by decide) (by decide)
    have t233_ : (qN S43_226 (qO S43_226 p0 2) : Int) = (qN S28_190 (qO S28_190 p0 2) : Int) := f227_.kL (j := 2) y33_ y34_ (g.hts y34_).1.2.2 (by decide) (by decide)
    have o234_ : qO S43_226 p0 3 = qO S28_190 p0 3 := qO_eq (f227_.kO y34_ (by decide) (by decide))
    have t235_ : (qI S43_226 (qO S43_226 p0 3) 8).toInt = (qI S28_190 (qO S28_190 p0 3) 8).toInt := by rw [o234_]; exact congrArg Int32.toInt (f227_.kI (j := 8) (y33_.ref p214_ y34_) (by decide) (by decide))
    have t236_ : (qI S43_226 (qO S43_226 p0 3) 4).toInt = (qI S28_190 (qO S28_190 p0 3) 4).toInt := by rw [o234_]; exact congrArg Int32.toInt (f227_.kI (j := 4) (y33_.ref p214_ y34_) (by decide) (by decide))
    have t237_ : (qN S43_226 (qO S43_226 (qO S43_226 p0 3) 13) : Int) = (qN S28_190 (qO S28_190 (qO S28_190 p0 3) 13) : Int) := by rw [o234_]; exact f227_.kL (j := 13) y33_ (y33_.ref p214_ y34_) (g.unit (y33_.ref p214_ y34_)).1.2.2.2.2.2.2.2.2 (by decide) (by decide)
    have t238_ : (qN S43_226 (qO S43_226 (qO S43_226 p0 3) 9) : Int) = (qN S28_190 (qO S28_190 (qO S28_190 p0 3) 9) : Int) := by rw [o234_]; exact f227_.kL (j := 9) y33_ (y33_.ref p214_ y34_) (g.unit (y33_.ref p214_ y34_)).1.2.2.2.2.1 (by decide) (by decide)
    have t239_ : (qN S43_226 (qO S43_226 (qO S43_226 p0 3) 5) : Int) = (qN S28_190 (qO S28_190 (qO S28_190 p0 3) 5) : Int) := by rw [o234_]; exact f227_.kL (j := 5) y33_ (y33_.ref p214_ y34_) (g.unit (y33_.ref p214_ y34_)).1.2.1 (by decide) (by decide)
    have o240_ : qO S43_226 p0 4 = qO S28_190 p0 4 := qO_eq (f227_.kO y34_ (by decide) (by decide))
    have t241_ : (qI S43_226 (qO S43_226 p0 4) 4).toInt = (qI S28_190 (qO S28_190 p0 4) 4).toInt := by rw [o240_]; exact congrArg Int32.toInt (f227_.kI (j := 4) (y33_.ref p215_ y34_) (by decide) (by decide))
    have t242_ : (qI S43_226 (qO S43_226 p0 4) 9).toInt = (qI S28_190 (qO S28_190 p0 4) 9).toInt := by rw [o240_]; exact congrArg Int32.toInt (f227_.kI (j := 9) (y33_.ref p215_ y34_) (by decide) (by decide))
    have t243_ : (qI S43_226 (qO S43_226 p0 4) 2).toInt = (qI S28_190 (qO S28_190 p0 4) 2).toInt := by rw [o240_]; exact congrArg Int32.toInt (f227_.kI (j := 2) (y33_.ref p215_ y34_) (by decide) (by decide))
    have t244_ : (qN S43_226 (qO S43_226 (qO S43_226 p0 4) 1) : Int) = (qN S28_190 (qO S28_190 (qO S28_190 p0 4) 1) : Int) := by rw [o240_]; exact f227_.kL (j := 1) y33_ (y33_.ref p215_ y34_) (g.row (y33_.ref p215_ y34_)).1.2.1 (by decide) (by decide)
    have t245_ : (qN S43_226 (qO S43_226 (qO S43_226 p0 4) 8) : Int) = (qN S28_190 (qO S28_190 (qO S28_190 p0 4) 8) : Int) := by rw [o240_]; exact f227_.kL (j := 8) y33_ (y33_.ref p215_ y34_) (g.row (y33_.ref p215_ y34_)).1.2.2.2.2.2.2 (by decide) (by decide)
    have t246_ : (qN S43_226 (qO S43_226 (qO S43_226 p0 4) 7) : Int) = (qN S28_190 (qO S28_190 (qO S28_190 p0 4) 7) : Int) := by rw [o240_]; exact f227_.kL (j := 7) y33_ (y33_.ref p215_ y34_) (g.row (y33_.ref p215_ y34_)).1.2.2.2.2.2.1 (by decide) (by decide)
    have t247_ : (qN S43_226 (qO S43_226 (qO S43_226 p0 4) 0) : Int) = (qN S28_190 (qO S28_190 (qO S28_190 p0 4) 0) : Int) := by rw [o240_]; exact f227_.kL (j := 0) y33_ (y33_.ref p215_ y34_) (g.row (y33_.ref p215_ y34_)).1.1 (by decide) (by decide)
    have t248_ : (qN S43_226 (qO S43_226 (qO S43_226 p0 4) 6) : Int) = (qN S28_190 (qO S28_190 (qO S28_190 p0 4) 6) : Int) := by rw [o240_]; exact f227_.kL (j := 6) y33_ (y33_.ref p215_ y34_) (g.row (y33_.ref p215_ y34_)).1.2.2.2.2.1 (by decide) (by decide)
    have t249_ : (qN S43_226 (qO S43_226 (qO S43_226 p0 4) 3) : Int) = (qN S28_190 (qO S28_190 (qO S28_190 p0 4) 3) : Int) := by rw [o240_]; exact f227_.kL (j := 3) y33_ (y33_.ref p215_ y34_) (g.row (y33_.ref p215_ y34_)).1.2.2.1 (by decide) (by decide)
    have t250_ : (qN S43_226 (qO S43_226 (qO S43_226 p0 4) 5) : Int) = (qN S28_190 (qO S28_190 (qO S28_190 p0 4) 5) : Int) := by rw [o240_]; exact f227_.kL (j := 5) y33_ (y33_.ref p215_ y34_) (g.row (y33_.ref p215_ y34_)).1.2.2.2.1 (by decide) (by decide)
    have p251_ : qR S43_226 p0 3 = some (qO S43_226 p0 3) := f227_.kP y34_ p214_ (by decide) (by decide)
    have p252_ : qR S43_226 p0 4 = some (qO S43_226 p0 4) := f227_.kP y34_ p215_ (by decide) (by decide)
    have k253_ : qT S43_226 p0 = 44 := f227_.1.T y34_ (by decide)
    have g : ShC B S43_226 := ShC.ws y33_ g f227_ (by rw [eS43_226]; rfl) (by rw [eS43_226]; rfl) (by rw [eS43_226]; rfl) rfl rfl
    exact ⟨g, trivial⟩
  · refine ⟨fun c254_ => ?_, fun c254_ => ?_⟩
    · unfold w_X4_spread_J102
      intro y37_ y38_
      refine ⟨?_, ?_⟩
      · exact (g.hts y38_).1.2.2
      refine ⟨?_, ?_⟩
      · have s255_ := (g.hts y38_).2
        have s256_ := y37_.len9 (y37_.ref (g.hts y38_).1.1 y38_) (by decide)
        have s257_ := y37_.len9 (y37_.ref (g.hts y38_).1.2.1 y38_) (by decide)
        have s258_ := y37_.len9 (y37_.ref (g.hts y38_).1.2.2 y38_) (by decide)
        have s259_ := (g.unit (y37_.ref p214_ y38_)).2
        have s260_ := (g.row (y37_.ref p215_ y38_)).2
        have n1_ := rgI x1
        have n2_ := rgI a8_134
        have n3_ := rgI (fX10_takes S (qO S p0 3) (qO S p0 4) x1)
        have n4_ := rgI r10_135
        have n5_ := rgI r19_162
        have n6_ := rgI a23_189
        have n9_ := rgI x2
        have n9_ := t_subD (a := x2) (b := r10_135)
        have n10_ := rgI (x2 - r10_135)
        have n10_ := t_addD (a := (x2 - r10_135)) (b := r19_162)
        have n11_ := rgI ((x2 - r10_135) + r19_162)
        have n12_ := rgI a35_217
        have n13_ := rgI (fX8_opAt S28_190 (qO S28_190 p0 4) x1)
        have n14_ := rgI a39_218
        have n15_ := rgI (fX6_goesOn S28_190 a35_217)
        have n16_ := rgI (qI S28_190 p0 5)
        omega
      intro S43_261 eS43_261 y39_ y40_
      have f262_ : cfr [304] [] S28_190 S43_261 := by rw [eS43_261]; exact cfr.aI y39_ (by decide)
      have t263_ : (qI S43_261 p0 7).toInt = (qI S28_190 p0 7).toInt := congrArg Int32.toInt (f262_.kI (j := 7) y38_ (by decide) (by decide))
      have t264_ : (qI S43_261 p0 6).toInt = (qI S28_190 p0 6).toInt := congrArg Int32.toInt (f262_.kI (j := 6) y38_ (by decide) (by decide))
      have t265_ : (qI S43_261 p0 5).toInt = (qI S28_190 p0 5).toInt := congrArg Int32.toInt (f262_.kI (j := 5) y38_ (by decide) (by decide))
      have t266_ : (qN S43_261 (qO S43_261 p0 1) : Int) = (qN S28_190 (qO S28_190 p0 1) : Int) := f262_.kL (j := 1) y37_ y38_ (g.hts y38_).1.2.1 (by decide) (by decide)
      have t267_ : (qN S43_261 (qO S43_261 p0 0) : Int) = (qN S28_190 (qO S28_190 p0 0) : Int) := f262_.kL (j := 0) y37_ y38_ (g.hts y38_).1.1 (by decide) (by decide)
      have t268_ : (qN S43_261 (qO S43_261 p0 2) : Int) = (qN S28_190 (qO S28_190 p0 2) : Int) := f262_.kL (j := 2) y37_ y38_ (g.hts y38_).1.2.2 (by decide) (by decide)
      have o269_ : qO S43_261 p0 3 = qO S28_190 p0 3 := qO_eq (f262_.kO y38_ (by decide) (by decide))
      have t270_ : (qI S43_261 (qO S43_261 p0 3) 8).toInt = (qI S28_190 (qO S28_190 p0 3) 8).toInt := by rw [o269_]; exact congrArg Int32.toInt (f262_.kI (j := 8) (y37_.ref p214_ y38_) (by decide) (by decide))
      have t271_ : (qI S43_261 (qO S43_261 p0 3) 4).toInt = (qI S28_190 (qO S28_190 p0 3) 4).toInt := by rw [o269_]; exact congrArg Int32.toInt (f262_.kI (j := 4) (y37_.ref p214_ y38_) (by decide) (by decide))
      have t272_ : (qN S43_261 (qO S43_261 (qO S43_261 p0 3) 13) : Int) = (qN S28_190 (qO S28_190 (qO S28_190 p0 3) 13) : Int) := by rw [o269_]; exact f262_.kL (j := 13) y37_ (y37_.ref p214_ y38_) (g.unit (y37_.ref p214_ y38_)).1.2.2.2.2.2.2.2.2 (by decide) (by decide)
      have t273_ : (qN S43_261 (qO S43_261 (qO S43_261 p0 3) 9) : Int) = (qN S28_190 (qO S28_190 (qO S28_190 p0 3) 9) : Int) := by rw [o269_]; exact f262_.kL (j := 9) y37_ (y37_.ref p214_ y38_) (g.unit (y37_.ref p214_ y38_)).1.2.2.2.2.1 (by decide) (by decide)
      have t274_ : (qN S43_261 (qO S43_261 (qO S43_261 p0 3) 5) : Int) = (qN S28_190 (qO S28_190 (qO S28_190 p0 3) 5) : Int) := by rw [o269_]; exact f262_.kL (j := 5) y37_ (y37_.ref p214_ y38_) (g.unit (y37_.ref p214_ y38_)).1.2.1 (by decide) (by decide)
      have o275_ : qO S43_261 p0 4 = qO S28_190 p0 4 := qO_eq (f262_.kO y38_ (by decide) (by decide))
      have t276_ : (qI S43_261 (qO S43_261 p0 4) 4).toInt = (qI S28_190 (qO S28_190 p0 4) 4).toInt := by rw [o275_]; exact congrArg Int32.toInt (f262_.kI (j := 4) (y37_.ref p215_ y38_) (by decide) (by decide))
      have t277_ : (qI S43_261 (qO S43_261 p0 4) 9).toInt = (qI S28_190 (qO S28_190 p0 4) 9).toInt := by rw [o275_]; exact congrArg Int32.toInt (f262_.kI (j := 9) (y37_.ref p215_ y38_) (by decide) (by decide))
      have t278_ : (qI S43_261 (qO S43_261 p0 4) 2).toInt = (qI S28_190 (qO S28_190 p0 4) 2).toInt := by rw [o275_]; exact congrArg Int32.toInt (f262_.kI (j := 2) (y37_.ref p215_ y38_) (by decide) (by decide))
      have t279_ : (qN S43_261 (qO S43_261 (qO S43_261 p0 4) 1) : Int) = (qN S28_190 (qO S28_190 (qO S28_190 p0 4) 1) : Int) := by rw [o275_]; exact f262_.kL (j := 1) y37_ (y37_.ref p215_ y38_) (g.row (y37_.ref p215_ y38_)).1.2.1 (by decide) (by decide)
      have t280_ : (qN S43_261 (qO S43_261 (qO S43_261 p0 4) 8) : Int) = (qN S28_190 (qO S28_190 (qO S28_190 p0 4) 8) : Int) := by rw [o275_]; exact f262_.kL (j := 8) y37_ (y37_.ref p215_ y38_) (g.row (y37_.ref p215_ y38_)).1.2.2.2.2.2.2 (by decide) (by decide)
      have t281_ : (qN S43_261 (qO S43_261 (qO S43_261 p0 4) 7) : Int) = (qN S28_190 (qO S28_190 (qO S28_190 p0 4) 7) : Int) := by rw [o275_]; exact f262_.kL (j := 7) y37_ (y37_.ref p215_ y38_) (g.row (y37_.ref p215_ y38_)).1.2.2.2.2.2.1 (by decide) (by decide)
      have t282_ : (qN S43_261 (qO S43_261 (qO S43_261 p0 4) 0) : Int) = (qN S28_190 (qO S28_190 (qO S28_190 p0 4) 0) : Int) := by rw [o275_]; exact f262_.kL (j := 0) y37_ (y37_.ref p215_ y38_) (g.row (y37_.ref p215_ y38_)).1.1 (by decide) (by decide)
      have t283_ : (qN S43_261 (qO S43_261 (qO S43_261 p0 4) 6) : Int) = (qN S28_190 (qO S28_190 (qO S28_190 p0 4) 6) : Int) := by rw [o275_]; exact f262_.kL (j := 6) y37_ (y37_.ref p215_ y38_) (g.row (y37_.ref p215_ y38_)).1.2.2.2.2.1 (by decide) (by decide)
      have t284_ : (qN S43_261 (qO S43_261 (qO S43_261 p0 4) 3) : Int) = (qN S28_190 (qO S28_190 (qO S28_190 p0 4) 3) : Int) := by rw [o275_]; exact f262_.kL (j := 3) y37_ (y37_.ref p215_ y38_) (g.row (y37_.ref p215_ y38_)).1.2.2.1 (by decide) (by decide)
      have t285_ : (qN S43_261 (qO S43_261 (qO S43_261 p0 4) 5) : Int) = (qN S28_190 (qO S28_190 (qO S28_190 p0 4) 5) : Int) := by rw [o275_]; exact f262_.kL (j := 5) y37_ (y37_.ref p215_ y38_) (g.row (y37_.ref p215_ y38_)).1.2.2.2.1 (by decide) (by decide)
      have p286_ : qR S43_261 p0 3 = some (qO S43_261 p0 3) := f262_.kP y38_ p214_ (by decide) (by decide)
      have p287_ : qR S43_261 p0 4 = some (qO S43_261 p0 4) := f262_.kP y38_ p215_ (by decide) (by decide)
      have k288_ : qT S43_261 p0 = 44 := f262_.1.T y38_ (by decide)
      have g : ShC B S43_261 := ShC.ws y37_ g f262_ (by rw [eS43_261]; rfl) (by rw [eS43_261]; rfl) (by rw [eS43_261]; rfl) rfl rfl
      exact ⟨g, trivial⟩
    · refine ⟨fun c289_ => ?_, fun c289_ => ?_⟩
      · unfold w_X4_spread_J84
        intro y41_ y42_ y43_ y44_
        refine ⟨fun c290_ => ?_, fun c290_ => ?_⟩
        · unfold w_X4_spread_J110
          intro y45_ y46_ y47_ y48_
          refine ⟨fun c291_ => ?_, fun c291_ => ?_⟩
          · unfold w_X4_spread_J127
            intro y49_ y50_ y51_ y52_ y53_ y54_
            intro S48_292 eS48_292 y55_ y56_
            have f293_ : cfr [] [(44, 7)] S28_190 S48_292 := by rw [eS48_292]; exact cfr.oI y55_ (by decide)
            have t294_ : (qI S48_292 p0 6).toInt = (qI S28_190 p0 6).toInt := congrArg Int32.toInt (f293_.kI (j := 6) y51_ (by decide) (by decide))
            have t295_ : (qI S48_292 p0 5).toInt = (qI S28_190 p0 5).toInt := congrArg Int32.toInt (f293_.kI (j := 5) y51_ (by decide) (by decide))
            have t296_ : (qN S48_292 (qO S48_292 p0 1) : Int) = (qN S28_190 (qO S28_190 p0 1) : Int) := f293_.kL (j := 1) y49_ y51_ (g.hts y51_).1.2.1 (by decide) (by decide)
            have t297_ : (qN S48_292 (qO S48_292 p0 0) : Int) = (qN S28_190 (qO S28_190 p0 0) : Int) := f293_.kL (j := 0) y49_ y51_ (g.hts y51_).1.1 (by decide) (by decide)
            have t298_ : (qN S48_292 (qO S48_292 p0 2) : Int) = (qN S28_190 (qO S28_190 p0 2) : Int) := f293_.kL (j := 2) y49_ y51_ (g.hts y51_).1.2.2 (by decide) (by decide)
            have o299_ : qO S48_292 p0 3 = qO S28_190 p0 3 := qO_eq (f293_.kO y51_ (by decide) (by decide))
            have t300_ : (qI S48_292 (qO S48_292 p0 3) 8).toInt = (qI S28_190 (qO S28_190 p0 3) 8).toInt := by rw [o299_]; exact congrArg Int32.toInt (f293_.kI (j := 8) (y49_.ref p214_ y51_) (by decide) (by decide))
            have t301_ : (qI S48_292 (qO S48_292 p0 3) 4).toInt = (qI S28_190 (qO S28_190 p0 3) 4).toInt := by rw [o299_]; exact congrArg Int32.toInt (f293_.kI (j := 4) (y49_.ref p214_ y51_) (by decide) (by decide))
            have t302_ : (qN S48_292 (qO S48_292 (qO S48_292 p0 3) 13) : Int) = (qN S28_190 (qO S28_190 (qO S28_190 p0 3) 13) : Int) := by rw [o299_]; exact f293_.kL (j := 13) y49_ (y49_.ref p214_ y51_) (g.unit (y49_.ref p214_ y51_)).1.2.2.2.2.2.2.2.2 (by decide) (by decide)
            have t303_ : (qN S48_292 (qO S48_292 (qO S48_292 p0 3) 9) : Int) = (qN S28_190 (qO S28_190 (qO S28_190 p0 3) 9) : Int) := by rw [o299_]; exact f293_.kL (j := 9) y49_ (y49_.ref p214_ y51_) (g.unit (y49_.ref p214_ y51_)).1.2.2.2.2.1 (by decide) (by decide)
            have t304_ : (qN S48_292 (qO S48_292 (qO S48_292 p0 3) 5) : Int) = (qN S28_190 (qO S28_190 (qO S28_190 p0 3) 5) : Int) := by rw [o299_]; exact f293_.kL (j := 5) y49_ (y49_.ref p214_ y51_) (g.unit (y49_.ref p214_ y51_)).1.2.1 (by decide) (by decide)
            have o305_ : qO S48_292 p0 4 = qO S28_190 p0 4 := qO_eq (f293_.kO y51_ (by decide) (by decide))
            have t306_ : (qI S48_292 (qO S48_292 p0 4) 4).toInt = (qI S28_190 (qO S28_190 p0 4) 4).toInt := by rw [o305_]; exact congrArg Int32.toInt (f293_.kI (j := 4) (y49_.ref p215_ y51_) (by decide) (by decide))
            have t307_ : (qI S48_292 (qO S48_292 p0 4) 9).toInt = (qI S28_190 (qO S28_190 p0 4) 9).toInt := by rw [o305_]; exact congrArg Int32.toInt (f293_.kI (j := 9) (y49_.ref p215_ y51_) (by decide) (by decide))
            have t308_ : (qI S48_292 (qO S48_292 p0 4) 2).toInt = (qI S28_190 (qO S28_190 p0 4) 2).toInt := by rw [o305_]; exact congrArg Int32.toInt (f293_.kI (j := 2) (y49_.ref p215_ y51_) (by decide) (by decide))
            have t309_ : (qN S48_292 (qO S48_292 (qO S48_292 p0 4) 1) : Int) = (qN S28_190 (qO S28_190 (qO S28_190 p0 4) 1) : Int) := by rw [o305_]; exact f293_.kL (j := 1) y49_ (y49_.ref p215_ y51_) (g.row (y49_.ref p215_ y51_)).1.2.1 (by decide) (by decide)
            have t310_ : (qN S48_292 (qO S48_292 (qO S48_292 p0 4) 8) : Int) = (qN S28_190 (qO S28_190 (qO S28_190 p0 4) 8) : Int) := by rw [o305_]; exact f293_.kL (j := 8) y49_ (y49_.ref p215_ y51_) (g.row (y49_.ref p215_ y51_)).1.2.2.2.2.2.2 (by decide) (by decide)
            have t311_ : (qN S48_292 (qO S48_292 (qO S48_292 p0 4) 7) : Int) = (qN S28_190 (qO S28_190 (qO S28_190 p0 4) 7) : Int) := by rw [o305_]; exact f293_.kL (j := 7) y49_ (y49_.ref p215_ y51_) (g.row (y49_.ref p215_ y51_)).1.2.2.2.2.2.1 (by decide) (by decide)
            have t312_ : (qN S48_292 (qO S48_292 (qO S48_292 p0 4) 0) : Int) = (qN S28_190 (qO S28_190 (qO S28_190 p0 4) 0) : Int) := by rw [o305_]; exact f293_.kL (j := 0) y49_ (y49_.ref p215_ y51_) (g.row (y49_.ref p215_ y51_)).1.1 (by decide) (by decide)
            have t313_ : (qN S48_292 (qO S48_292 (qO S48_292 p0 4) 6) : Int) = (qN S28_190 (qO S28_190 (qO S28_190 p0 4) 6) : Int) := by rw [o305_]; exact f293_.kL (j := 6) y49_ (y49_.ref p215_ y51_) (g.row (y49_.ref p215_ y51_)).1.2.2.2.2.1 (by decide) (by decide)
            have t314_ : (qN S48_292 (qO S48_292 (qO S48_292 p0 4) 3) : Int) = (qN S28_190 (qO S28_190 (qO S28_190 p0 4) 3) : Int) := by rw [o305_]; exact f293_.kL (j := 3) y49_ (y49_.ref p215_ y51_) (g.row (y49_.ref p215_ y51_)).1.2.2.1 (by decide) (by decide)
            have t315_ : (qN S48_292 (qO S48_292 (qO S48_292 p0 4) 5) : Int) = (qN S28_190 (qO S28_190 (qO S28_190 p0 4) 5) : Int) := by rw [o305_]; exact f293_.kL (j := 5) y49_ (y49_.ref p215_ y51_) (g.row (y49_.ref p215_ y51_)).1.2.2.2.1 (by decide) (by decide)
            have p316_ : qR S48_292 p0 3 = some (qO S48_292 p0 3) := f293_.kP y51_ p214_ (by decide) (by decide)
            have p317_ : qR S48_292 p0 4 = some (qO S48_292 p0 4) := f293_.kP y51_ p215_ (by decide) (by decide)
            have k318_ : qT S48_292 p0 = 44 := f293_.1.T y51_ (by decide)
            have t319_ : (qI S48_292 p0 7).toInt = (if (qI S28_190 p0 7) < (if a23_189 < (0 : Int32) then (0 : Int32) else a23_189) then (if a23_189 < (0 : Int32) then (0 : Int32) else a23_189) else (qI S28_190 p0 7)).toInt := by rw [eS48_292, qI_wI, if_pos ⟨rfl, rfl⟩]
            have g : ShC B S48_292 := ShC.ws y49_ g f293_ (by rw [eS48_292]; rfl) (by rw [eS48_292]; rfl) (by rw [eS48_292]; rfl) rfl rfl
            refine ⟨fun c320_ => ?_, fun c320_ => ?_⟩
            · unfold w_X4_spread_J150
              intro y57_ y58_ y59_
              refine ⟨?_, ?_⟩
              · exact p317_
              refine ⟨?_, ?_⟩
              · exact (dd_X8_targetCount y57_ g (y57_.ref p317_ y58_))
              intro a54_321 ea54_321 
              have ga54_321 := congrArg Int32.toInt ea54_321
              refine ⟨(2147483648 - (0 : Int32).toInt).toNat + 1, ?_⟩
              refine sg_X4_spread_L163  _ g p316_ p317_ ?_ ?_ ?_ ?_
              · have s322_ := (g.hts y58_).2
                have s323_ := y57_.len9 (y57_.ref (g.hts y58_).1.1 y58_) (by decide)
                have s324_ := y57_.len9 (y57_.ref (g.hts y58_).1.2.1 y58_) (by decide)
                have s325_ := y57_.len9 (y57_.ref (g.hts y58_).1.2.2 y58_) (by decide)
                have s326_ := (g.unit (y57_.ref p316_ y58_)).2
                have s327_ := (g.row (y57_.ref p317_ y58_)).2
                have n1_ := li_0k
                have n2_ := rgI x1
                have n3_ := rgI a8_134
                have n4_ := rgI (fX10_takes S (qO S p0 3) (qO S p0 4) x1)
                have n5_ := rgI r10_135
                have n6_ := rgI r19_162
                have n7_ := rgI a23_189
                have n10_ := rgI x2
                have n10_ := t_subD (a := x2) (b := r10_135)
                have n11_ := rgI (x2 - r10_135)
                have n11_ := t_addD (a := (x2 - r10_135)) (b := r19_162)
                have n12_ := rgI ((x2 - r10_135) + r19_162)
                have n13_ := rgI a35_217
                have n14_ := rgI (fX8_opAt S28_190 (qO S28_190 p0 4) x1)
                have n15_ := rgI a39_218
                have n16_ := rgI (fX6_goesOn S28_190 a35_217)
                have n17_ := rgI (qI S28_190 p0 5)
                have n18_ := rgI r27_190
                have n19_ := rgI (qI S48_292 p0 7)
                have n20_ := rgI (if (qI S28_190 p0 7) < (if a23_189 < (0 : Int32) then (0 : Int32) else a23_189) then (if a23_189 < (0 : Int32) then (0 : Int32) else a23_189) else (qI S28_190 p0 7))
                have n21_ := rgI a54_321
                have n22_ := rgI (fX8_targetCount S48_292 (qO S48_292 p0 4) x1)
                omega
              · have s328_ := (g.hts y58_).2
                have s329_ := y57_.len9 (y57_.ref (g.hts y58_).1.1 y58_) (by decide)
                have s330_ := y57_.len9 (y57_.ref (g.hts y58_).1.2.1 y58_) (by decide)
                have s331_ := y57_.len9 (y57_.ref (g.hts y58_).1.2.2 y58_) (by decide)
                have s332_ := (g.unit (y57_.ref p316_ y58_)).2
                have s333_ := (g.row (y57_.ref p317_ y58_)).2
                have n1_ := rgI x1
                have n2_ := rgI a8_134
                have n3_ := rgI (fX10_takes S (qO S p0 3) (qO S p0 4) x1)
                have n4_ := rgI r10_135
                have n5_ := rgI r19_162
                have n6_ := rgI a23_189
                have n9_ := rgI x2
                have n9_ := t_subD (a := x2) (b := r10_135)
                have n10_ := rgI (x2 - r10_135)
                have n10_ := t_addD (a := (x2 - r10_135)) (b := r19_162)
                have n11_ := rgI ((x2 - r10_135) + r19_162)
                have n12_ := rgI a35_217
                have n13_ := rgI (fX8_opAt S28_190 (qO S28_190 p0 4) x1)
                have n14_ := rgI a39_218
                have n15_ := rgI (fX6_goesOn S28_190 a35_217)
                have n16_ := rgI (qI S28_190 p0 5)
                have n17_ := rgI r27_190
                have n18_ := rgI (qI S48_292 p0 7)
                have n19_ := rgI (if (qI S28_190 p0 7) < (if a23_189 < (0 : Int32) then (0 : Int32) else a23_189) then (if a23_189 < (0 : Int32) then (0 : Int32) else a23_189) else (qI S28_190 p0 7))
                have n20_ := rgI a54_321
                have n21_ := rgI (fX8_targetCount S48_292 (qO S48_292 p0 4) x1)
                omega
              · have s334_ := (g.hts y58_).2
                have s335_ := y57_.len9 (y57_.ref (g.hts y58_).1.1 y58_) (by decide)
                have s336_ := y57_.len9 (y57_.ref (g.hts y58_).1.2.1 y58_) (by decide)
                have s337_ := y57_.len9 (y57_.ref (g.hts y58_).1.2.2 y58_) (by decide)
                have s338_ := (g.unit (y57_.ref p316_ y58_)).2
                have s339_ := (g.row (y57_.ref p317_ y58_)).2
                have n1_ := rgI x1
                have n2_ := rgI a8_134
                have n3_ := rgI (fX10_takes S (qO S p0 3) (qO S p0 4) x1)
                have n4_ := rgI r10_135
                have n5_ := rgI r19_162
                have n6_ := rgI a23_189
                have n9_ := rgI x2
                have n9_ := t_subD (a := x2) (b := r10_135)
                have n10_ := rgI (x2 - r10_135)
                have n10_ := t_addD (a := (x2 - r10_135)) (b := r19_162)
                have n11_ := rgI ((x2 - r10_135) + r19_162)
                have n12_ := rgI a35_217
                have n13_ := rgI (fX8_opAt S28_190 (qO S28_190 p0 4) x1)
                have n14_ := rgI a39_218
                have n15_ := rgI (fX6_goesOn S28_190 a35_217)
                have n16_ := rgI (qI S28_190 p0 5)
                have n17_ := rgI r27_190
                have n18_ := rgI (qI S48_292 p0 7)
                have n19_ := rgI (if (qI S28_190 p0 7) < (if a23_189 < (0 : Int32) then (0 : Int32) else a23_189) then (if a23_189 < (0 : Int32) then (0 : Int32) else a23_189) else (qI S28_190 p0 7))
                have n20_ := rgI a54_321
                have n21_ := rgI (fX8_targetCount S48_292 (qO S48_292 p0 4) x1)
                omega
              · have s340_ := (g.hts y58_).2
                have s341_ := y57_.len9 (y57_.ref (g.hts y58_).1.1 y58_) (by decide)
                have s342_ := y57_.len9 (y57_.ref (g.hts y58_).1.2.1 y58_) (by decide)
                have s343_ := y57_.len9 (y57_.ref (g.hts y58_).1.2.2 y58_) (by decide)
                have s344_ := (g.unit (y57_.ref p316_ y58_)).2
                have s345_ := (g.row (y57_.ref p317_ y58_)).2
                have n1_ := li_0k
                have n2_ := rgI x1
                have n3_ := rgI a8_134
                have n4_ := rgI (fX10_takes S (qO S p0 3) (qO S p0 4) x1)
                have n5_ := rgI r10_135
                have n6_ := rgI r19_162
                have n7_ := rgI a23_189
                have n10_ := rgI x2
                have n10_ := t_subD (a := x2) (b := r10_135)
                have n11_ := rgI (x2 - r10_135)
                have n11_ := t_addD (a := (x2 - r10_135)) (b := r19_162)
                have n12_ := rgI ((x2 - r10_135) + r19_162)
                have n13_ := rgI a35_217
                have n14_ := rgI (fX8_opAt S28_190 (qO S28_190 p0 4) x1)
                have n15_ := rgI a39_218
                have n16_ := rgI (fX6_goesOn S28_190 a35_217)
                have n17_ := rgI (qI S28_190 p0 5)
                have n18_ := rgI r27_190
                have n19_ := rgI (qI S48_292 p0 7)
                have n20_ := rgI (if (qI S28_190 p0 7) < (if a23_189 < (0 : Int32) then (0 : Int32) else a23_189) then (if a23_189 < (0 : Int32) then (0 : Int32) else a23_189) else (qI S28_190 p0 7))
                have n21_ := rgI a54_321
                have n22_ := rgI (fX8_targetCount S48_292 (qO S48_292 p0 4) x1)
                omega
            · intro y60_
              refine ⟨_, frX4_comeTo y56_ (sgX4_comeTo y56_ g y60_ p317_), ?_⟩
              intro S90_346 q61_ y62_ y63_
              have t347_ : (qI S90_346 p0 7).toInt = (qI S48_292 p0 7).toInt := congrArg Int32.toInt (q61_.2.kI (j := 7) y60_ (by decide) (by decide))
              have t348_ : (qI S90_346 p0 5).toInt = (qI S48_292 p0 5).toInt := congrArg Int32.toInt (q61_.2.kI (j := 5) y60_ (by decide) (by decide))
              have t349_ : (qN S90_346 (qO S90_346 p0 1) : Int) = (qN S48_292 (qO S48_292 p0 1) : Int) := q61_.2.kL (j := 1) y56_ y60_ (g.hts y60_).1.2.1 (by decide) (by decide)
              have t350_ : (qN S90_346 (qO S90_346 p0 0) : Int) = (qN S48_292 (qO S48_292 p0 0) : Int) := q61_.2.kL (j := 0) y56_ y60_ (g.hts y60_).1.1 (by decide) (by decide)
              have t351_ : (qN S90_346 (qO S90_346 p0 2) : Int) = (qN S48_292 (qO S48_292 p0 2) : Int) := q61_.2.kL (j := 2) y56_ y60_ (g.hts y60_).1.2.2 (by decide) (by decide)
              have o352_ : qO S90_346 p0 3 = qO S48_292 p0 3 := qO_eq (q61_.2.kO y60_ (by decide) (by decide))
              have t353_ : (qI S90_346 (qO S90_346 p0 3) 8).toInt = (qI S48_292 (qO S48_292 p0 3) 8).toInt := by rw [o352_]; exact congrArg Int32.toInt (q61_.2.kI (j := 8) (y56_.ref p316_ y60_) (by decide) (by decide))
              have t354_ : (qI S90_346 (qO S90_346 p0 3) 4).toInt = (qI S48_292 (qO S48_292 p0 3) 4).toInt := by rw [o352_]; exact congrArg Int32.toInt (q61_.2.kI (j := 4) (y56_.ref p316_ y60_) (by decide) (by decide))
              have t355_ : (qN S90_346 (qO S90_346 (qO S90_346 p0 3) 13) : Int) = (qN S48_292 (qO S48_292 (qO S48_292 p0 3) 13) : Int) := by rw [o352_]; exact q61_.2.kL (j := 13) y56_ (y56_.ref p316_ y60_) (g.unit (y56_.ref p316_ y60_)).1.2.2.2.2.2.2.2.2 (by decide) (by decide)
              have t356_ : (qN S90_346 (qO S90_346 (qO S90_346 p0 3) 9) : Int) = (qN S48_292 (qO S48_292 (qO S48_292 p0 3) 9) : Int) := by rw [o352_]; exact q61_.2.kL (j := 9) y56_ (y56_.ref p316_ y60_) (g.unit (y56_.ref p316_ y60_)).1.2.2.2.2.1 (by decide) (by decide)
              have t357_ : (qN S90_346 (qO S90_346 (qO S90_346 p0 3) 5) : Int) = (qN S48_292 (qO S48_292 (qO S48_292 p0 3) 5) : Int) := by rw [o352_]; exact q61_.2.kL (j := 5) y56_ (y56_.ref p316_ y60_) (g.unit (y56_.ref p316_ y60_)).1.2.1 (by decide) (by decide)
              have o358_ : qO S90_346 p0 4 = qO S48_292 p0 4 := qO_eq (q61_.2.kO y60_ (by decide) (by decide))
              have t359_ : (qI S90_346 (qO S90_346 p0 4) 4).toInt = (qI S48_292 (qO S48_292 p0 4) 4).toInt := by rw [o358_]; exact congrArg Int32.toInt (q61_.2.kI (j := 4) (y56_.ref p317_ y60_) (by decide) (by decide))
              have t360_ : (qI S90_346 (qO S90_346 p0 4) 9).toInt = (qI S48_292 (qO S48_292 p0 4) 9).toInt := by rw [o358_]; exact congrArg Int32.toInt (q61_.2.kI (j := 9) (y56_.ref p317_ y60_) (by decide) (by decide))
              have t361_ : (qI S90_346 (qO S90_346 p0 4) 2).toInt = (qI S48_292 (qO S48_292 p0 4) 2).toInt := by rw [o358_]; exact congrArg Int32.toInt (q61_.2.kI (j := 2) (y56_.ref p317_ y60_) (by decide) (by decide))
              have t362_ : (qN S90_346 (qO S90_346 (qO S90_346 p0 4) 1) : Int) = (qN S48_292 (qO S48_292 (qO S48_292 p0 4) 1) : Int) := by rw [o358_]; exact q61_.2.kL (j := 1) y56_ (y56_.ref p317_ y60_) (g.row (y56_.ref p317_ y60_)).1.2.1 (by decide) (by decide)
              have t363_ : (qN S90_346 (qO S90_346 (qO S90_346 p0 4) 8) : Int) = (qN S48_292 (qO S48_292 (qO S48_292 p0 4) 8) : Int) := by rw [o358_]; exact q61_.2.kL (j := 8) y56_ (y56_.ref p317_ y60_) (g.row (y56_.ref p317_ y60_)).1.2.2.2.2.2.2 (by decide) (by decide)
              have t364_ : (qN S90_346 (qO S90_346 (qO S90_346 p0 4) 7) : Int) = (qN S48_292 (qO S48_292 (qO S48_292 p0 4) 7) : Int) := by rw [o358_]; exact q61_.2.kL (j := 7) y56_ (y56_.ref p317_ y60_) (g.row (y56_.ref p317_ y60_)).1.2.2.2.2.2.1 (by decide) (by decide)
              have t365_ : (qN S90_346 (qO S90_346 (qO S90_346 p0 4) 0) : Int) = (qN S48_292 (qO S48_292 (qO S48_292 p0 4) 0) : Int) := by rw [o358_]; exact q61_.2.kL (j := 0) y56_ (y56_.ref p317_ y60_) (g.row (y56_.ref p317_ y60_)).1.1 (by decide) (by decide)
              have t366_ : (qN S90_346 (qO S90_346 (qO S90_346 p0 4) 6) : Int) = (qN S48_292 (qO S48_292 (qO S48_292 p0 4) 6) : Int) := by rw [o358_]; exact q61_.2.kL (j := 6) y56_ (y56_.ref p317_ y60_) (g.row (y56_.ref p317_ y60_)).1.2.2.2.2.1 (by decide) (by decide)
              have t367_ : (qN S90_346 (qO S90_346 (qO S90_346 p0 4) 3) : Int) = (qN S48_292 (qO S48_292 (qO S48_292 p0 4) 3) : Int) := by rw [o358_]; exact q61_.2.kL (j := 3) y56_ (y56_.ref p317_ y60_) (g.row (y56_.ref p317_ y60_)).1.2.2.1 (by decide) (by decide)
              have t368_ : (qN S90_346 (qO S90_346 (qO S90_346 p0 4) 5) : Int) = (qN S48_292 (qO S48_292 (qO S48_292 p0 4) 5) : Int) := by rw [o358_]; exact q61_.2.kL (j := 5) y56_ (y56_.ref p317_ y60_) (g.row (y56_.ref p317_ y60_)).1.2.2.2.1 (by decide) (by decide)
              have p369_ : qR S90_346 p0 3 = some (qO S90_346 p0 3) := q61_.2.kP y60_ p316_ (by decide) (by decide)
              have p370_ : qR S90_346 p0 4 = some (qO S90_346 p0 4) := q61_.2.kP y60_ p317_ (by decide) (by decide)
              have k371_ : qT S90_346 p0 = 44 := q61_.2.1.T y60_ (by decide)
              have g : ShC B S90_346 := q61_.1.1
              unfold w_X4_spread_J150
              intro y64_ y65_ y66_
              refine ⟨?_, ?_⟩
              · exact p370_
              refine ⟨?_, ?_⟩
              · exact (dd_X8_targetCount y64_ g (y64_.ref p370_ y65_))
              intro a54_372 ea54_372 
              have ga54_372 := congrArg Int32.toInt ea54_372
              refine ⟨(2147483648 - (0 : Int32).toInt).toNat + 1, ?_⟩
              refine sg_X4_spread_L163  _ g p369_ p370_ ?_ ?_ ?_ ?_
              · have s373_ := (g.hts y65_).2
                have s374_ := y64_.len9 (y64_.ref (g.hts y65_).1.1 y65_) (by decide)
                have s375_ := y64_.len9 (y64_.ref (g.hts y65_).1.2.1 y65_) (by decide)
                have s376_ := y64_.len9 (y64_.ref (g.hts y65_).1.2.2 y65_) (by decide)
                have s377_ := (g.unit (y64_.ref p369_ y65_)).2
                have s378_ := (g.row (y64_.ref p370_ y65_)).2
                have n1_ := li_0k
                have n2_ := rgI x1
                have n3_ := rgI a8_134
                have n4_ := rgI (fX10_takes S (qO S p0 3) (qO S p0 4) x1)
                have n5_ := rgI r10_135
                have n6_ := rgI r19_162
                have n7_ := rgI a23_189
                have n10_ := rgI x2
                have n10_ := t_subD (a := x2) (b := r10_135)
                have n11_ := rgI (x2 - r10_135)
                have n11_ := t_addD (a := (x2 - r10_135)) (b := r19_162)
                have n12_ := rgI ((x2 - r10_135) + r19_162)
                have n13_ := rgI a35_217
                have n14_ := rgI (fX8_opAt S28_190 (qO S28_190 p0 4) x1)
                have n15_ := rgI a39_218
                have n16_ := rgI (fX6_goesOn S28_190 a35_217)
                have n17_ := rgI (qI S28_190 p0 5)
                have n18_ := rgI r27_190
                have n19_ := rgI (qI S48_292 p0 7)
                have n20_ := rgI (if (qI S28_190 p0 7) < (if a23_189 < (0 : Int32) then (0 : Int32) else a23_189) then (if a23_189 < (0 : Int32) then (0 : Int32) else a23_189) else (qI S28_190 p0 7))
                have n21_ := rgI a54_372
                have n22_ := rgI (fX8_targetCount S90_346 (qO S90_346 p0 4) x1)
                omega
              · have s379_ := (g.hts y65_).2
                have s380_ := y64_.len9 (y64_.ref (g.hts y65_).1.1 y65_) (by decide)
                have s381_ := y64_.len9 (y64_.ref (g.hts y65_).1.2.1 y65_) (by decide)
                have s382_ := y64_.len9 (y64_.ref (g.hts y65_).1.2.2 y65_) (by decide)
                have s383_ := (g.unit (y64_.ref p369_ y65_)).2
                have s384_ := (g.row (y64_.ref p370_ y65_)).2
                have n1_ := rgI x1
                have n2_ := rgI a8_134
                have n3_ := rgI (fX10_takes S (qO S p0 3) (qO S p0 4) x1)
                have n4_ := rgI r10_135
                have n5_ := rgI r19_162
                have n6_ := rgI a23_189
                have n9_ := rgI x2
                have n9_ := t_subD (a := x2) (b := r10_135)
                have n10_ := rgI (x2 - r10_135)
                have n10_ := t_addD (a := (x2 - r10_135)) (b := r19_162)
                have n11_ := rgI ((x2 - r10_135) + r19_162)
                have n12_ := rgI a35_217
                have n13_ := rgI (fX8_opAt S28_190 (qO S28_190 p0 4) x1)
                have n14_ := rgI a39_218
                have n15_ := rgI (fX6_goesOn S28_190 a35_217)
                have n16_ := rgI (qI S28_190 p0 5)
                have n17_ := rgI r27_190
                have n18_ := rgI (qI S48_292 p0 7)
                have n19_ := rgI (if (qI S28_190 p0 7) < (if a23_189 < (0 : Int32) then (0 : Int32) else a23_189) then (if a23_189 < (0 : Int32) then (0 : Int32) else a23_189) else (qI S28_190 p0 7))
                have n20_ := rgI a54_372
                have n21_ := rgI (fX8_targetCount S90_346 (qO S90_346 p0 4) x1)
                omega
              · have s385_ := (g.hts y65_).2
                have s386_ := y64_.len9 (y64_.ref (g.hts y65_).1.1 y65_) (by decide)
                have s387_ := y64_.len9 (y64_.ref (g.hts y65_).1.2.1 y65_) (by decide)
                have s388_ := y64_.len9 (y64_.ref (g.hts y65_).1.2.2 y65_) (by decide)
                have s389_ := (g.unit (y64_.ref p369_ y65_)).2
                have s390_ := (g.row (y64_.ref p370_ y65_)).2
                have n1_ := rgI x1
                have n2_ := rgI a8_134
                have n3_ := rgI (fX10_takes S (qO S p0 3) (qO S p0 4) x1)
                have n4_ := rgI r10_135
                have n5_ := rgI r19_162
                have n6_ := rgI a23_189
                have n9_ := rgI x2
                have n9_ := t_subD (a := x2) (b := r10_135)
                have n10_ := rgI (x2 - r10_135)
                have n10_ := t_addD (a := (x2 - r10_135)) (b := r19_162)
                have n11_ := rgI ((x2 - r10_135) + r19_162)
                have n12_ := rgI a35_217
                have n13_ := rgI (fX8_opAt S28_190 (qO S28_190 p0 4) x1)
                have n14_ := rgI a39_218
                have n15_ := rgI (fX6_goesOn S28_190 a35_217)
                have n16_ := rgI (qI S28_190 p0 5)
                have n17_ := rgI r27_190
                have n18_ := rgI (qI S48_292 p0 7)
                have n19_ := rgI (if (qI S28_190 p0 7) < (if a23_189 < (0 : Int32) then (0 : Int32) else a23_189) then (if a23_189 < (0 : Int32) then (0 : Int32) else a23_189) else (qI S28_190 p0 7))
                have n20_ := rgI a54_372
                have n21_ := rgI (fX8_targetCount S90_346 (qO S90_346 p0 4) x1)
                omega
              · have s391_ := (g.hts y65_).2
                have s392_ := y64_.len9 (y64_.ref (g.hts y65_).1.1 y65_) (by decide)
                have s393_ := y64_.len9 (y64_.ref (g.hts y65_).1.2.1 y65_) (by decide)
                have s394_ := y64_.len9 (y64_.ref (g.hts y65_).1.2.2 y65_) (by decide)
                have s395_ := (g.unit (y64_.ref p369_ y65_)).2
                have s396_ := (g.row (y64_.ref p370_ y65_)).2
                have n1_ := li_0k
                have n2_ := rgI x1
                have n3_ := rgI a8_134
                have n4_ := rgI (fX10_takes S (qO S p0 3) (qO S p0 4) x1)
                have n5_ := rgI r10_135
                have n6_ := rgI r19_162
                have n7_ := rgI a23_189
                have n10_ := rgI x2
                have n10_ := t_subD (a := x2) (b := r10_135)
                have n11_ := rgI (x2 - r10_135)
                have n11_ := t_addD (a := (x2 - r10_135)) (b := r19_162)
                have n12_ := rgI ((x2 - r10_135) + r19_162)
                have n13_ := rgI a35_217
                have n14_ := rgI (fX8_opAt S28_190 (qO S28_190 p0 4) x1)
                have n15_ := rgI a39_218
                have n16_ := rgI (fX6_goesOn S28_190 a35_217)
                have n17_ := rgI (qI S28_190 p0 5)
                have n18_ := rgI r27_190
                have n19_ := rgI (qI S48_292 p0 7)
                have n20_ := rgI (if (qI S28_190 p0 7) < (if a23_189 < (0 : Int32) then (0 : Int32) else a23_189) then (if a23_189 < (0 : Int32) then (0 : Int32) else a23_189) else (qI S28_190 p0 7))
                have n21_ := rgI a54_372
                have n22_ := rgI (fX8_targetCount S90_346 (qO S90_346 p0 4) x1)
                omega
          · unfold w_X4_spread_J127
            intro y67_ y68_ y69_ y70_ y71_ y72_
            intro S48_397 eS48_397 y73_ y74_
            have f398_ : cfr [] [(44, 7)] S28_190 S48_397 := by rw [eS48_397]; exact cfr.oI y73_ (by decide)
            have t399_ : (qI S48_397 p0 6).toInt = (qI S28_190 p0 6).toInt := congrArg Int32.toInt (f398_.kI (j := 6) y69_ (by decide) (by decide))
            have t400_ : (qI S48_397 p0 5).toInt = (qI S28_190 p0 5).toInt := congrArg Int32.toInt (f398_.kI (j := 5) y69_ (by decide) (by decide))
            have t401_ : (qN S48_397 (qO S48_397 p0 1) : Int) = (qN S28_190 (qO S28_190 p0 1) : Int) := f398_.kL (j := 1) y67_ y69_ (g.hts y69_).1.2.1 (by decide) (by decide)
            have t402_ : (qN S48_397 (qO S48_397 p0 0) : Int) = (qN S28_190 (qO S28_190 p0 0) : Int) := f398_.kL (j := 0) y67_ y69_ (g.hts y69_).1.1 (by decide) (by decide)
            have t403_ : (qN S48_397 (qO S48_397 p0 2) : Int) = (qN S28_190 (qO S28_190 p0 2) : Int) := f398_.kL (j := 2) y67_ y69_ (g.hts y69_).1.2.2 (by decide) (by decide)
            have o404_ : qO S48_397 p0 3 = qO S28_190 p0 3 := qO_eq (f398_.kO y69_ (by decide) (by decide))
            have t405_ : (qI S48_397 (qO S48_397 p0 3) 8).toInt = (qI S28_190 (qO S28_190 p0 3) 8).toInt := by rw [o404_]; exact congrArg Int32.toInt (f398_.kI (j := 8) (y67_.ref p214_ y69_) (by decide) (by decide))
            have t406_ : (qI S48_397 (qO S48_397 p0 3) 4).toInt = (qI S28_190 (qO S28_190 p0 3) 4).toInt := by rw [o404_]; exact congrArg Int32.toInt (f398_.kI (j := 4) (y67_.ref p214_ y69_) (by decide) (by decide))
            have t407_ : (qN S48_397 (qO S48_397 (qO S48_397 p0 3) 13) : Int) = (qN S28_190 (qO S28_190 (qO S28_190 p0 3) 13) : Int) := by rw [o404_]; exact f398_.kL (j := 13) y67_ (y67_.ref p214_ y69_) (g.unit (y67_.ref p214_ y69_)).1.2.2.2.2.2.2.2.2 (by decide) (by decide)
            have t408_ : (qN S48_397 (qO S48_397 (qO S48_397 p0 3) 9) : Int) = (qN S28_190 (qO S28_190 (qO S28_190 p0 3) 9) : Int) := by rw [o404_]; exact f398_.kL (j := 9) y67_ (y67_.ref p214_ y69_) (g.unit (y67_.ref p214_ y69_)).1.2.2.2.2.1 (by decide) (by decide)
            have t409_ : (qN S48_397 (qO S48_397 (qO S48_397 p0 3) 5) : Int) = (qN S28_190 (qO S28_190 (qO S28_190 p0 3) 5) : Int) := by rw [o404_]; exact f398_.kL (j := 5) y67_ (y67_.ref p214_ y69_) (g.unit (y67_.ref p214_ y69_)).1.2.1 (by decide) (by decide)
            have o410_ : qO S48_397 p0 4 = qO S28_190 p0 4 := qO_eq (f398_.kO y69_ (by decide) (by decide))
            have t411_ : (qI S48_397 (qO S48_397 p0 4) 4).toInt = (qI S28_190 (qO S28_190 p0 4) 4).toInt := by rw [o410_]; exact congrArg Int32.toInt (f398_.kI (j := 4) (y67_.ref p215_ y69_) (by decide) (by decide))
            have t412_ : (qI S48_397 (qO S48_397 p0 4) 9).toInt = (qI S28_190 (qO S28_190 p0 4) 9).toInt := by rw [o410_]; exact congrArg Int32.toInt (f398_.kI (j := 9) (y67_.ref p215_ y69_) (by decide) (by decide))
            have t413_ : (qI S48_397 (qO S48_397 p0 4) 2).toInt = (qI S28_190 (qO S28_190 p0 4) 2).toInt := by rw [o410_]; exact congrArg Int32.toInt (f398_.kI (j := 2) (y67_.ref p215_ y69_) (by decide) (by decide))
            have t414_ : (qN S48_397 (qO S48_397 (qO S48_397 p0 4) 1) : Int) = (qN S28_190 (qO S28_190 (qO S28_190 p0 4) 1) : Int) := by rw [o410_]; exact f398_.kL (j := 1) y67_ (y67_.ref p215_ y69_) (g.row (y67_.ref p215_ y69_)).1.2.1 (by decide) (by decide)
            have t415_ : (qN S48_397 (qO S48_397 (qO S48_397 p0 4) 8) : Int) = (qN S28_190 (qO S28_190 (qO S28_190 p0 4) 8) : Int) := by rw [o410_]; exact f398_.kL (j := 8) y67_ (y67_.ref p215_ y69_) (g.row (y67_.ref p215_ y69_)).1.2.2.2.2.2.2 (by decide) (by decide)
            have t416_ : (qN S48_397 (qO S48_397 (qO S48_397 p0 4) 7) : Int) = (qN S28_190 (qO S28_190 (qO S28_190 p0 4) 7) : Int) := by rw [o410_]; exact f398_.kL (j := 7) y67_ (y67_.ref p215_ y69_) (g.row (y67_.ref p215_ y69_)).1.2.2.2.2.2.1 (by decide) (by decide)
            have t417_ : (qN S48_397 (qO S48_397 (qO S48_397 p0 4) 0) : Int) = (qN S28_190 (qO S28_190 (qO S28_190 p0 4) 0) : Int) := by rw [o410_]; exact f398_.kL (j := 0) y67_ (y67_.ref p215_ y69_) (g.row (y67_.ref p215_ y69_)).1.1 (by decide) (by decide)
            have t418_ : (qN S48_397 (qO S48_397 (qO S48_397 p0 4) 6) : Int) = (qN S28_190 (qO S28_190 (qO S28_190 p0 4) 6) : Int) := by rw [o410_]; exact f398_.kL (j := 6) y67_ (y67_.ref p215_ y69_) (g.row (y67_.ref p215_ y69_)).1.2.2.2.2.1 (by decide) (by decide)
            have t419_ : (qN S48_397 (qO S48_397 (qO S48_397 p0 4) 3) : Int) = (qN S28_190 (qO S28_190 (qO S28_190 p0 4) 3) : Int) := by rw [o410_]; exact f398_.kL (j := 3) y67_ (y67_.ref p215_ y69_) (g.row (y67_.ref p215_ y69_)).1.2.2.1 (by decide) (by decide)
            have t420_ : (qN S48_397 (qO S48_397 (qO S48_397 p0 4) 5) : Int) = (qN S28_190 (qO S28_190 (qO S28_190 p0 4) 5) : Int) := by rw [o410_]; exact f398_.kL (j := 5) y67_ (y67_.ref p215_ y69_) (g.row (y67_.ref p215_ y69_)).1.2.2.2.1 (by decide) (by decide)
            have p421_ : qR S48_397 p0 3 = some (qO S48_397 p0 3) := f398_.kP y69_ p214_ (by decide) (by decide)
            have p422_ : qR S48_397 p0 4 = some (qO S48_397 p0 4) := f398_.kP y69_ p215_ (by decide) (by decide)
            have k423_ : qT S48_397 p0 = 44 := f398_.1.T y69_ (by decide)
            have t424_ : (qI S48_397 p0 7).toInt = (if (qI S28_190 p0 7) < (if a23_189 < (1 : Int32) then (1 : Int32) else a23_189) then (if a23_189 < (1 : Int32) then (1 : Int32) else a23_189) else (qI S28_190 p0 7)).toInt := by rw [eS48_397, qI_wI, if_pos ⟨rfl, rfl⟩]
            have g : ShC B S48_397 := ShC.ws y67_ g f398_ (by rw [eS48_397]; rfl) (by rw [eS48_397]; rfl) (by rw [eS48_397]; rfl) rfl rfl
            refine ⟨fun c425_ => ?_, fun c425_ => ?_⟩
            · unfold w_X4_spread_J150
              intro y75_ y76_ y77_
              refine ⟨?_, ?_⟩
              · exact p422_
              refine ⟨?_, ?_⟩
              · exact (dd_X8_targetCount y75_ g (y75_.ref p422_ y76_))
              intro a54_426 ea54_426 
              have ga54_426 := congrArg Int32.toInt ea54_426
              refine ⟨(2147483648 - (0 : Int32).toInt).toNat + 1, ?_⟩
              refine sg_X4_spread_L163  _ g p421_ p422_ ?_ ?_ ?_ ?_
              · have s427_ := (g.hts y76_).2
                have s428_ := y75_.len9 (y75_.ref (g.hts y76_).1.1 y76_) (by decide)
                have s429_ := y75_.len9 (y75_.ref (g.hts y76_).1.2.1 y76_) (by decide)
                have s430_ := y75_.len9 (y75_.ref (g.hts y76_).1.2.2 y76_) (by decide)
                have s431_ := (g.unit (y75_.ref p421_ y76_)).2
                have s432_ := (g.row (y75_.ref p422_ y76_)).2
                have n1_ := li_0k
                have n2_ := rgI x1
                have n3_ := rgI a8_134
                have n4_ := rgI (fX10_takes S (qO S p0 3) (qO S p0 4) x1)
                have n5_ := rgI r10_135
                have n6_ := rgI r19_162
                have n7_ := rgI a23_189
                have n10_ := rgI x2
                have n10_ := t_subD (a := x2) (b := r10_135)
                have n11_ := rgI (x2 - r10_135)
                have n11_ := t_addD (a := (x2 - r10_135)) (b := r19_162)
                have n12_ := rgI ((x2 - r10_135) + r19_162)
                have n13_ := rgI a35_217
                have n14_ := rgI (fX8_opAt S28_190 (qO S28_190 p0 4) x1)
                have n15_ := rgI a39_218
                have n16_ := rgI (fX6_goesOn S28_190 a35_217)
                have n17_ := rgI (qI S28_190 p0 5)
                have n18_ := rgI r27_190
                have n19_ := rgI (qI S48_397 p0 7)
                have n20_ := rgI (if (qI S28_190 p0 7) < (if a23_189 < (1 : Int32) then (1 : Int32) else a23_189) then (if a23_189 < (1 : Int32) then (1 : Int32) else a23_189) else (qI S28_190 p0 7))
                have n21_ := rgI a54_426
                have n22_ := rgI (fX8_targetCount S48_397 (qO S48_397 p0 4) x1)
                omega
              · have s433_ := (g.hts y76_).2
                have s434_ := y75_.len9 (y75_.ref (g.hts y76_).1.1 y76_) (by decide)
                have s435_ := y75_.len9 (y75_.ref (g.hts y76_).1.2.1 y76_) (by decide)
                have s436_ := y75_.len9 (y75_.ref (g.hts y76_).1.2.2 y76_) (by decide)
                have s437_ := (g.unit (y75_.ref p421_ y76_)).2
                have s438_ := (g.row (y75_.ref p422_ y76_)).2
                have n1_ := rgI x1
                have n2_ := rgI a8_134
                have n3_ := rgI (fX10_takes S (qO S p0 3) (qO S p0 4) x1)
                have n4_ := rgI r10_135
                have n5_ := rgI r19_162
                have n6_ := rgI a23_189
                have n9_ := rgI x2
                have n9_ := t_subD (a := x2) (b := r10_135)
                have n10_ := rgI (x2 - r10_135)
                have n10_ := t_addD (a := (x2 - r10_135)) (b := r19_162)
                have n11_ := rgI ((x2 - r10_135) + r19_162)
                have n12_ := rgI a35_217
                have n13_ := rgI (fX8_opAt S28_190 (qO S28_190 p0 4) x1)
                have n14_ := rgI a39_218
                have n15_ := rgI (fX6_goesOn S28_190 a35_217)
                have n16_ := rgI (qI S28_190 p0 5)
                have n17_ := rgI r27_190
                have n18_ := rgI (qI S48_397 p0 7)
                have n19_ := rgI (if (qI S28_190 p0 7) < (if a23_189 < (1 : Int32) then (1 : Int32) else a23_189) then (if a23_189 < (1 : Int32) then (1 : Int32) else a23_189) else (qI S28_190 p0 7))
                have n20_ := rgI a54_426
                have n21_ := rgI (fX8_targetCount S48_397 (qO S48_397 p0 4) x1)
                omega
              · have s439_ := (g.hts y76_).2
                have s440_ := y75_.len9 (y75_.ref (g.hts y76_).1.1 y76_) (by decide)
                have s441_ := y75_.len9 (y75_.ref (g.hts y76_).1.2.1 y76_) (by decide)
                have s442_ := y75_.len9 (y75_.ref (g.hts y76_).1.2.2 y76_) (by decide)
                have s443_ := (g.unit (y75_.ref p421_ y76_)).2
                have s444_ := (g.row (y75_.ref p422_ y76_)).2
                have n1_ := rgI x1
                have n2_ := rgI a8_134
                have n3_ := rgI (fX10_takes S (qO S p0 3) (qO S p0 4) x1)
                have n4_ := rgI r10_135
                have n5_ := rgI r19_162
                have n6_ := rgI a23_189
                have n9_ := rgI x2
                have n9_ := t_subD (a := x2) (b := r10_135)
                have n10_ := rgI (x2 - r10_135)
                have n10_ := t_addD (a := (x2 - r10_135)) (b := r19_162)
                have n11_ := rgI ((x2 - r10_135) + r19_162)
                have n12_ := rgI a35_217
                have n13_ := rgI (fX8_opAt S28_190 (qO S28_190 p0 4) x1)
                have n14_ := rgI a39_218
                have n15_ := rgI (fX6_goesOn S28_190 a35_217)
                have n16_ := rgI (qI S28_190 p0 5)
                have n17_ := rgI r27_190
                have n18_ := rgI (qI S48_397 p0 7)
                have n19_ := rgI (if (qI S28_190 p0 7) < (if a23_189 < (1 : Int32) then (1 : Int32) else a23_189) then (if a23_189 < (1 : Int32) then (1 : Int32) else a23_189) else (qI S28_190 p0 7))
                have n20_ := rgI a54_426
                have n21_ := rgI (fX8_targetCount S48_397 (qO S48_397 p0 4) x1)
                omega
              · have s445_ := (g.hts y76_).2
                have s446_ := y75_.len9 (y75_.ref (g.hts y76_).1.1 y76_) (by decide)
                have s447_ := y75_.len9 (y75_.ref (g.hts y76_).1.2.1 y76_) (by decide)
                have s448_ := y75_.len9 (y75_.ref (g.hts y76_).1.2.2 y76_) (by decide)
                have s449_ := (g.unit (y75_.ref p421_ y76_)).2
                have s450_ := (g.row (y75_.ref p422_ y76_)).2
                have n1_ := li_0k
                have n2_ := rgI x1
                have n3_ := rgI a8_134
                have n4_ := rgI (fX10_takes S (qO S p0 3) (qO S p0 4) x1)
                have n5_ := rgI r10_135
                have n6_ := rgI r19_162
                have n7_ := rgI a23_189
                have n10_ := rgI x2
                have n10_ := t_subD (a := x2) (b := r10_135)
                have n11_ := rgI (x2 - r10_135)
                have n11_ := t_addD (a := (x2 - r10_135)) (b := r19_162)
                have n12_ := rgI ((x2 - r10_135) + r19_162)
                have n13_ := rgI a35_217
                have n14_ := rgI (fX8_opAt S28_190 (qO S28_190 p0 4) x1)
                have n15_ := rgI a39_218
                have n16_ := rgI (fX6_goesOn S28_190 a35_217)
                have n17_ := rgI (qI S28_190 p0 5)
                have n18_ := rgI r27_190
                have n19_ := rgI (qI S48_397 p0 7)
                have n20_ := rgI (if (qI S28_190 p0 7) < (if a23_189 < (1 : Int32) then (1 : Int32) else a23_189) then (if a23_189 < (1 : Int32) then (1 : Int32) else a23_189) else (qI S28_190 p0 7))
                have n21_ := rgI a54_426
                have n22_ := rgI (fX8_targetCount S48_397 (qO S48_397 p0 4) x1)
                omega
            · intro y78_
              refine ⟨_, frX4_comeTo y74_ (sgX4_comeTo y74_ g y78_ p422_), ?_⟩
              intro S90_451 q79_ y80_ y81_
              have t452_ : (qI S90_451 p0 7).toInt = (qI S48_397 p0 7).toInt := congrArg Int32.toInt (q79_.2.kI (j := 7) y78_ (by decide) (by decide))
              have t453_ : (qI S90_451 p0 5).toInt = (qI S48_397 p0 5).toInt := congrArg Int32.toInt (q79_.2.kI (j := 5) y78_ (by decide) (by decide))
              have t454_ : (qN S90_451 (qO S90_451 p0 1) : Int) = (qN S48_397 (qO S48_397 p0 1) : Int) := q79_.2.kL (j := 1) y74_ y78_ (g.hts y78_).1.2.1 (by decide) (by decide)
              have t455_ : (qN S90_451 (qO S90_451 p0 0) : Int) = (qN S48_397 (qO S48_397 p0 0) : Int) := q79_.2.kL (j := 0) y74_ y78_ (g.hts y78_).1.1 (by decide) (by decide)
              have t456_ : (qN S90_451 (qO S90_451 p0 2) : Int) = (qN S48_397 (qO S48_397 p0 2) : Int) := q79_.2.kL (j := 2) y74_ y78_ (g.hts y78_).1.2.2 (by decide) (by decide)
              have o457_ : qO S90_451 p0 3 = qO S48_397 p0 3 := qO_eq (q79_.2.kO y78_ (by decide) (by decide))
              have t458_ : (qI S90_451 (qO S90_451 p0 3) 8).toInt = (qI S48_397 (qO S48_397 p0 3) 8).toInt := by rw [o457_]; exact congrArg Int32.toInt (q79_.2.kI (j := 8) (y74_.ref p421_ y78_) (by decide) (by decide))
              have t459_ : (qI S90_451 (qO S90_451 p0 3) 4).toInt = (qI S48_397 (qO S48_397 p0 3) 4).toInt := by rw [o457_]; exact congrArg Int32.toInt (q79_.2.kI (j := 4) (y74_.ref p421_ y78_) (by decide) (by decide))
              have t460_ : (qN S90_451 (qO S90_451 (qO S90_451 p0 3) 13) : Int) = (qN S48_397 (qO S48_397 (qO S48_397 p0 3) 13) : Int) := by rw [o457_]; exact q79_.2.kL (j := 13) y74_ (y74_.ref p421_ y78_) (g.unit (y74_.ref p421_ y78_)).1.2.2.2.2.2.2.2.2 (by decide) (by decide)
              have t461_ : (qN S90_451 (qO S90_451 (qO S90_451 p0 3) 9) : Int) = (qN S48_397 (qO S48_397 (qO S48_397 p0 3) 9) : Int) := by rw [o457_]; exact q79_.2.kL (j := 9) y74_ (y74_.ref p421_ y78_) (g.unit (y74_.ref p421_ y78_)).1.2.2.2.2.1 (by decide) (by decide)
              have t462_ : (qN S90_451 (qO S90_451 (qO S90_451 p0 3) 5) : Int) = (qN S48_397 (qO S48_397 (qO S48_397 p0 3) 5) : Int) := by rw [o457_]; exact q79_.2.kL (j := 5) y74_ (y74_.ref p421_ y78_) (g.unit (y74_.ref p421_ y78_)).1.2.1 (by decide) (by decide)
              have o463_ : qO S90_451 p0 4 = qO S48_397 p0 4 := qO_eq (q79_.2.kO y78_ (by decide) (by decide))
              have t464_ : (qI S90_451 (qO S90_451 p0 4) 4).toInt = (qI S48_397 (qO S48_397 p0 4) 4).toInt := by rw [o463_]; exact congrArg Int32.toInt (q79_.2.kI (j := 4) (y74_.ref p422_ y78_) (by decide) (by decide))
              have t465_ : (qI S90_451 (qO S90_451 p0 4) 9).toInt = (qI S48_397 (qO S48_397 p0 4) 9).toInt := by rw [o463_]; exact congrArg Int32.toInt (q79_.2.kI (j := 9) (y74_.ref p422_ y78_) (by decide) (by decide))
              have t466_ : (qI S90_451 (qO S90_451 p0 4) 2).toInt = (qI S48_397 (qO S48_397 p0 4) 2).toInt := by rw [o463_]; exact congrArg Int32.toInt (q79_.2.kI (j := 2) (y74_.ref p422_ y78_) (by decide) (by decide))
              have t467_ : (qN S90_451 (qO S90_451 (qO S90_451 p0 4) 1) : Int) = (qN S48_397 (qO S48_397 (qO S48_397 p0 4) 1) : Int) := by rw [o463_]; exact q79_.2.kL (j := 1) y74_ (y74_.ref p422_ y78_) (g.row (y74_.ref p422_ y78_)).1.2.1 (by decide) (by decide)
              have t468_ : (qN S90_451 (qO S90_451 (qO S90_451 p0 4) 8) : Int) = (qN S48_397 (qO S48_397 (qO S48_397 p0 4) 8) : Int) := by rw [o463_]; exact q79_.2.kL (j := 8) y74_ (y74_.ref p422_ y78_) (g.row (y74_.ref p422_ y78_)).1.2.2.2.2.2.2 (by decide) (by decide)
              have t469_ : (qN S90_451 (qO S90_451 (qO S90_451 p0 4) 7) : Int) = (qN S48_397 (qO S48_397 (qO S48_397 p0 4) 7) : Int) := by rw [o463_]; exact q79_.2.kL (j := 7) y74_ (y74_.ref p422_ y78_) (g.row (y74_.ref p422_ y78_)).1.2.2.2.2.2.1 (by decide) (by decide)
              have t470_ : (qN S90_451 (qO S90_451 (qO S90_451 p0 4) 0) : Int) = (qN S48_397 (qO S48_397 (qO S48_397 p0 4) 0) : Int) := by rw [o463_]; exact q79_.2.kL (j := 0) y74_ (y74_.ref p422_ y78_) (g.row (y74_.ref p422_ y78_)).1.1 (by decide) (by decide)
              have t471_ : (qN S90_451 (qO S90_451 (qO S90_451 p0 4) 6) : Int) = (qN S48_397 (qO S48_397 (qO S48_397 p0 4) 6) : Int) := by rw [o463_]; exact q79_.2.kL (j := 6) y74_ (y74_.ref p422_ y78_) (g.row (y74_.ref p422_ y78_)).1.2.2.2.2.1 (by decide) (by decide)
              have t472_ : (qN S90_451 (qO S90_451 (qO S90_451 p0 4) 3) : Int) = (qN S48_397 (qO S48_397 (qO S48_397 p0 4) 3) : Int) := by rw [o463_]; exact q79_.2.kL (j := 3) y74_ (y74_.ref p422_ y78_) (g.row (y74_.ref p422_ y78_)).1.2.2.1 (by decide) (by decide)
              have t473_ : (qN S90_451 (qO S90_451 (qO S90_451 p0 4) 5) : Int) = (qN S48_397 (qO S48_397 (qO S48_397 p0 4) 5) : Int) := by rw [o463_]; exact q79_.2.kL (j := 5) y74_ (y74_.ref p422_ y78_) (g.row (y74_.ref p422_ y78_)).1.2.2.2.1 (by decide) (by decide)
              have p474_ : qR S90_451 p0 3 = some (qO S90_451 p0 3) := q79_.2.kP y78_ p421_ (by decide) (by decide)
              have p475_ : qR S90_451 p0 4 = some (qO S90_451 p0 4) := q79_.2.kP y78_ p422_ (by decide) (by decide)
              have k476_ : qT S90_451 p0 = 44 := q79_.2.1.T y78_ (by decide)
              have g : ShC B S90_451 := q79_.1.1
              unfold w_X4_spread_J150
              intro y82_ y83_ y84_
              refine ⟨?_, ?_⟩
              · exact p475_
              refine ⟨?_, ?_⟩
              · exact (dd_X8_targetCount y82_ g (y82_.ref p475_ y83_))
              intro a54_477 ea54_477 
              have ga54_477 := congrArg Int32.toInt ea54_477
              refine ⟨(2147483648 - (0 : Int32).toInt).toNat + 1, ?_⟩
              refine sg_X4_spread_L163  _ g p474_ p475_ ?_ ?_ ?_ ?_
              · have s478_ := (g.hts y83_).2
                have s479_ := y82_.len9 (y82_.ref (g.hts y83_).1.1 y83_) (by decide)
                have s480_ := y82_.len9 (y82_.ref (g.hts y83_).1.2.1 y83_) (by decide)
                have s481_ := y82_.len9 (y82_.ref (g.hts y83_).1.2.2 y83_) (by decide)
                have s482_ := (g.unit (y82_.ref p474_ y83_)).2
                have s483_ := (g.row (y82_.ref p475_ y83_)).2
                have n1_ := li_0k
                have n2_ := rgI x1
                have n3_ := rgI a8_134
                have n4_ := rgI (fX10_takes S (qO S p0 3) (qO S p0 4) x1)
                have n5_ := rgI r10_135
                have n6_ := rgI r19_162
                have n7_ := rgI a23_189
                have n10_ := rgI x2
                have n10_ := t_subD (a := x2) (b := r10_135)
                have n11_ := rgI (x2 - r10_135)
                have n11_ := t_addD (a := (x2 - r10_135)) (b := r19_162)
                have n12_ := rgI ((x2 - r10_135) + r19_162)
                have n13_ := rgI a35_217
                have n14_ := rgI (fX8_opAt S28_190 (qO S28_190 p0 4) x1)
                have n15_ := rgI a39_218
                have n16_ := rgI (fX6_goesOn S28_190 a35_217)
                have n17_ := rgI (qI S28_190 p0 5)
                have n18_ := rgI r27_190
                have n19_ := rgI (qI S48_397 p0 7)
                have n20_ := rgI (if (qI S28_190 p0 7) < (if a23_189 < (1 : Int32) then (1 : Int32) else a23_189) then (if a23_189 < (1 : Int32) then (1 : Int32) else a23_189) else (qI S28_190 p0 7))
                have n21_ := rgI a54_477
                have n22_ := rgI (fX8_targetCount S90_451 (qO S90_451 p0 4) x1)
                omega
              · have s484_ := (g.hts y83_).2
                have s485_ := y82_.len9 (y82_.ref (g.hts y83_).1.1 y83_) (by decide)
                have s486_ := y82_.len9 (y82_.ref (g.hts y83_).1.2.1 y83_) (by decide)
                have s487_ := y82_.len9 (y82_.ref (g.hts y83_).1.2.2 y83_) (by decide)
                have s488_ := (g.unit (y82_.ref p474_ y83_)).2
                have s489_ := (g.row (y82_.ref p475_ y83_)).2
                have n1_ := rgI x1
                have n2_ := rgI a8_134
                have n3_ := rgI (fX10_takes S (qO S p0 3) (qO S p0 4) x1)
                have n4_ := rgI r10_135
                have n5_ := rgI r19_162
                have n6_ := rgI a23_189
                have n9_ := rgI x2
                have n9_ := t_subD (a := x2) (b := r10_135)
                have n10_ := rgI (x2 - r10_135)
                have n10_ := t_addD (a := (x2 - r10_135)) (b := r19_162)
                have n11_ := rgI ((x2 - r10_135) + r19_162)
                have n12_ := rgI a35_217
                have n13_ := rgI (fX8_opAt S28_190 (qO S28_190 p0 4) x1)
                have n14_ := rgI a39_218
                have n15_ := rgI (fX6_goesOn S28_190 a35_217)
                have n16_ := rgI (qI S28_190 p0 5)
                have n17_ := rgI r27_190
                have n18_ := rgI (qI S48_397 p0 7)
                have n19_ := rgI (if (qI S28_190 p0 7) < (if a23_189 < (1 : Int32) then (1 : Int32) else a23_189) then (if a23_189 < (1 : Int32) then (1 : Int32) else a23_189) else (qI S28_190 p0 7))
                have n20_ := rgI a54_477
                have n21_ := rgI (fX8_targetCount S90_451 (qO S90_451 p0 4) x1)
                omega
              · have s490_ := (g.hts y83_).2
                have s491_ := y82_.len9 (y82_.ref (g.hts y83_).1.1 y83_) (by decide)
                have s492_ := y82_.len9 (y82_.ref (g.hts y83_).1.2.1 y83_) (by decide)
                have s493_ := y82_.len9 (y82_.ref (g.hts y83_).1.2.2 y83_) (by decide)
                have s494_ := (g.unit (y82_.ref p474_ y83_)).2
                have s495_ := (g.row (y82_.ref p475_ y83_)).2
                have n1_ := rgI x1
                have n2_ := rgI a8_134
                have n3_ := rgI (fX10_takes S (qO S p0 3) (qO S p0 4) x1)
                have n4_ := rgI r10_135
                have n5_ := rgI r19_162
                have n6_ := rgI a23_189
                have n9_ := rgI x2
                have n9_ := t_subD (a := x2) (b := r10_135)
                have n10_ := rgI (x2 - r10_135)
                have n10_ := t_addD (a := (x2 - r10_135)) (b := r19_162)
                have n11_ := rgI ((x2 - r10_135) + r19_162)
                have n12_ := rgI a35_217
                have n13_ := rgI (fX8_opAt S28_190 (qO S28_190 p0 4) x1)
                have n14_ := rgI a39_218
                have n15_ := rgI (fX6_goesOn S28_190 a35_217)
                have n16_ := rgI (qI S28_190 p0 5)
                have n17_ := rgI r27_190
                have n18_ := rgI (qI S48_397 p0 7)
                have n19_ := rgI (if (qI S28_190 p0 7) < (if a23_189 < (1 : Int32) then (1 : Int32) else a23_189) then (if a23_189 < (1 : Int32) then (1 : Int32) else a23_189) else (qI S28_190 p0 7))
                have n20_ := rgI a54_477
                have n21_ := rgI (fX8_targetCount S90_451 (qO S90_451 p0 4) x1)
                omega
              · have s496_ := (g.hts y83_).2
                have s497_ := y82_.len9 (y82_.ref (g.hts y83_).1.1 y83_) (by decide)
                have s498_ := y82_.len9 (y82_.ref (g.hts y83_).1.2.1 y83_) (by decide)
                have s499_ := y82_.len9 (y82_.ref (g.hts y83_).1.2.2 y83_) (by decide)
                have s500_ := (g.unit (y82_.ref p474_ y83_)).2
                have s501_ := (g.row (y82_.ref p475_ y83_)).2
                have n1_ := li_0k
                have n2_ := rgI x1
                have n3_ := rgI a8_134
                have n4_ := rgI (fX10_takes S (qO S p0 3) (qO S p0 4) x1)
                have n5_ := rgI r10_135
                have n6_ := rgI r19_162
                have n7_ := rgI a23_189
                have n10_ := rgI x2
                have n10_ := t_subD (a := x2) (b := r10_135)
                have n11_ := rgI (x2 - r10_135)
                have n11_ := t_addD (a := (x2 - r10_135)) (b := r19_162)
                have n12_ := rgI ((x2 - r10_135) + r19_162)
                have n13_ := rgI a35_217
                have n14_ := rgI (fX8_opAt S28_190 (qO S28_190 p0 4) x1)
                have n15_ := rgI a39_218
                have n16_ := rgI (fX6_goesOn S28_190 a35_217)
                have n17_ := rgI (qI S28_190 p0 5)
                have n18_ := rgI r27_190
                have n19_ := rgI (qI S48_397 p0 7)
                have n20_ := rgI (if (qI S28_190 p0 7) < (if a23_189 < (1 : Int32) then (1 : Int32) else a23_189) then (if a23_189 < (1 : Int32) then (1 : Int32) else a23_189) else (qI S28_190 p0 7))
                have n21_ := rgI a54_477
                have n22_ := rgI (fX8_targetCount S90_451 (qO S90_451 p0 4) x1)
                omega
        · refine ⟨?_, ?_⟩
          · exact p215_
          refine ⟨fun c502_ => ?_, fun c502_ => ?_⟩
          · unfold w_X4_spread_J110
            intro y85_ y86_ y87_ y88_
            refine ⟨fun c503_ => ?_, fun c503_ => ?_⟩
            · unfold w_X4_spread_J127
              intro y89_ y90_ y91_ y92_ y93_ y94_
              intro S48_504 eS48_504 y95_ y96_
              have f505_ : cfr [] [(44, 7)] S28_190 S48_504 := by rw [eS48_504]; exact cfr.oI y95_ (by decide)
              have t506_ : (qI S48_504 p0 6).toInt = (qI S28_190 p0 6).toInt := congrArg Int32.toInt (f505_.kI (j := 6) y91_ (by decide) (by decide))
              have t507_ : (qI S48_504 p0 5).toInt = (qI S28_190 p0 5).toInt := congrArg Int32.toInt (f505_.kI (j := 5) y91_ (by decide) (by decide))
              have t508_ : (qN S48_504 (qO S48_504 p0 1) : Int) = (qN S28_190 (qO S28_190 p0 1) : Int) := f505_.kL (j := 1) y89_ y91_ (g.hts y91_).1.2.1 (by decide) (by decide)
              have t509_ : (qN S48_504 (qO S48_504 p0 0) : Int) = (qN S28_190 (qO S28_190 p0 0) : Int) := f505_.kL (j := 0) y89_ y91_ (g.hts y91_).1.1 (by decide) (by decide)
              have t510_ : (qN S48_504 (qO S48_504 p0 2) : Int) = (qN S28_190 (qO S28_190 p0 2) : Int) := f505_.kL (j := 2) y89_ y91_ (g.hts y91_).1.2.2 (by decide) (by decide)
              have o511_ : qO S48_504 p0 3 = qO S28_190 p0 3 := qO_eq (f505_.kO y91_ (by decide) (by decide))
              have t512_ : (qI S48_504 (qO S48_504 p0 3) 8).toInt = (qI S28_190 (qO S28_190 p0 3) 8).toInt := by rw [o511_]; exact congrArg Int32.toInt (f505_.kI (j := 8) (y89_.ref p214_ y91_) (by decide) (by decide))
              have t513_ : (qI S48_504 (qO S48_504 p0 3) 4).toInt = (qI S28_190 (qO S28_190 p0 3) 4).toInt := by rw [o511_]; exact congrArg Int32.toInt (f505_.kI (j := 4) (y89_.ref p214_ y91_) (by decide) (by decide))
              have t514_ : (qN S48_504 (qO S48_504 (qO S48_504 p0 3) 13) : Int) = (qN S28_190 (qO S28_190 (qO S28_190 p0 3) 13) : Int) := by rw [o511_]; exact f505_.kL (j := 13) y89_ (y89_.ref p214_ y91_) (g.unit (y89_.ref p214_ y91_)).1.2.2.2.2.2.2.2.2 (by decide) (by decide)
              have t515_ : (qN S48_504 (qO S48_504 (qO S48_504 p0 3) 9) : Int) = (qN S28_190 (qO S28_190 (qO S28_190 p0 3) 9) : Int) := by rw [o511_]; exact f505_.kL (j := 9) y89_ (y89_.ref p214_ y91_) (g.unit (y89_.ref p214_ y91_)).1.2.2.2.2.1 (by decide) (by decide)
              have t516_ : (qN S48_504 (qO S48_504 (qO S48_504 p0 3) 5) : Int) = (qN S28_190 (qO S28_190 (qO S28_190 p0 3) 5) : Int) := by rw [o511_]; exact f505_.kL (j := 5) y89_ (y89_.ref p214_ y91_) (g.unit (y89_.ref p214_ y91_)).1.2.1 (by decide) (by decide)
              have o517_ : qO S48_504 p0 4 = qO S28_190 p0 4 := qO_eq (f505_.kO y91_ (by decide) (by decide))
              have t518_ : (qI S48_504 (qO S48_504 p0 4) 4).toInt = (qI S28_190 (qO S28_190 p0 4) 4).toInt := by rw [o517_]; exact congrArg Int32.toInt (f505_.kI (j := 4) (y89_.ref p215_ y91_) (by decide) (by decide))
              have t519_ : (qI S48_504 (qO S48_504 p0 4) 9).toInt = (qI S28_190 (qO S28_190 p0 4) 9).toInt := by rw [o517_]; exact congrArg Int32.toInt (f505_.kI (j := 9) (y89_.ref p215_ y91_) (by decide) (by decide))
              have t520_ : (qI S48_504 (qO S48_504 p0 4) 2).toInt = (qI S28_190 (qO S28_190 p0 4) 2).toInt := by rw [o517_]; exact congrArg Int32.toInt (f505_.kI (j := 2) (y89_.ref p215_ y91_) (by decide) (by decide))
              have t521_ : (qN S48_504 (qO S48_504 (qO S48_504 p0 4) 1) : Int) = (qN S28_190 (qO S28_190 (qO S28_190 p0 4) 1) : Int) := by rw [o517_]; exact f505_.kL (j := 1) y89_ (y89_.ref p215_ y91_) (g.row (y89_.ref p215_ y91_)).1.2.1 (by decide) (by decide)
              have t522_ : (qN S48_504 (qO S48_504 (qO S48_504 p0 4) 8) : Int) = (qN S28_190 (qO S28_190 (qO S28_190 p0 4) 8) : Int) := by rw [o517_]; exact f505_.kL (j := 8) y89_ (y89_.ref p215_ y91_) (g.row (y89_.ref p215_ y91_)).1.2.2.2.2.2.2 (by decide) (by decide)
              have t523_ : (qN S48_504 (qO S48_504 (qO S48_504 p0 4) 7) : Int) = (qN S28_190 (qO S28_190 (qO S28_190 p0 4) 7) : Int) := by rw [o517_]; exact f505_.kL (j := 7) y89_ (y89_.ref p215_ y91_) (g.row (y89_.ref p215_ y91_)).1.2.2.2.2.2.1 (by decide) (by decide)
              have t524_ : (qN S48_504 (qO S48_504 (qO S48_504 p0 4) 0) : Int) = (qN S28_190 (qO S28_190 (qO S28_190 p0 4) 0) : Int) := by rw [o517_]; exact f505_.kL (j := 0) y89_ (y89_.ref p215_ y91_) (g.row (y89_.ref p215_ y91_)).1.1 (by decide) (by decide)
              have t525_ : (qN S48_504 (qO S48_504 (qO S48_504 p0 4) 6) : Int) = (qN S28_190 (qO S28_190 (qO S28_190 p0 4) 6) : Int) := by rw [o517_]; exact f505_.kL (j := 6) y89_ (y89_.ref p215_ y91_) (g.row (y89_.ref p215_ y91_)).1.2.2.2.2.1 (by decide) (by decide)
              have t526_ : (qN S48_504 (qO S48_504 (qO S48_504 p0 4) 3) : Int) = (qN S28_190 (qO S28_190 (qO S28_190 p0 4) 3) : Int) := by rw [o517_]; exact f505_.kL (j := 3) y89_ (y89_.ref p215_ y91_) (g.row (y89_.ref p215_ y91_)).1.2.2.1 (by decide) (by decide)
              have t527_ : (qN S48_504 (qO S48_504 (qO S48_504 p0 4) 5) : Int) = (qN S28_190 (qO S28_190 (qO S28_190 p0 4) 5) : Int) := by rw [o517_]; exact f505_.kL (j := 5) y89_ (y89_.ref p215_ y91_) (g.row (y89_.ref p215_ y91_)).1.2.2.2.1 (by decide) (by decide)
              have p528_ : qR S48_504 p0 3 = some (qO S48_504 p0 3) := f505_.kP y91_ p214_ (by decide) (by decide)
              have p529_ : qR S48_504 p0 4 = some (qO S48_504 p0 4) := f505_.kP y91_ p215_ (by decide) (by decide)
              have k530_ : qT S48_504 p0 = 44 := f505_.1.T y91_ (by decide)
              have t531_ : (qI S48_504 p0 7).toInt = (if (qI S28_190 p0 7) < (if a23_189 < (0 : Int32) then (0 : Int32) else a23_189) then (if a23_189 < (0 : Int32) then (0 : Int32) else a23_189) else (qI S28_190 p0 7)).toInt := by rw [eS48_504, qI_wI, if_pos ⟨rfl, rfl⟩]
              have g : ShC B S48_504 := ShC.ws y89_ g f505_ (by rw [eS48_504]; rfl) (by rw [eS48_504]; rfl) (by rw [eS48_504]; rfl) rfl rfl
              refine ⟨fun c532_ => ?_, fun c532_ => ?_⟩
              · unfold w_X4_spread_J150
                intro y97_ y98_ y99_
                refine ⟨?_, ?_⟩
                · exact p529_
                refine ⟨?_, ?_⟩
                · exact (dd_X8_targetCount y97_ g (y97_.ref p529_ y98_))
                intro a54_533 ea54_533 
                have ga54_533 := congrArg Int32.toInt ea54_533
                refine ⟨(2147483648 - (0 : Int32).toInt).toNat + 1, ?_⟩
                refine sg_X4_spread_L163  _ g p528_ p529_ ?_ ?_ ?_ ?_
                · have s534_ := (g.hts y98_).2
                  have s535_ := y97_.len9 (y97_.ref (g.hts y98_).1.1 y98_) (by decide)
                  have s536_ := y97_.len9 (y97_.ref (g.hts y98_).1.2.1 y98_) (by decide)
                  have s537_ := y97_.len9 (y97_.ref (g.hts y98_).1.2.2 y98_) (by decide)
                  have s538_ := (g.unit (y97_.ref p528_ y98_)).2
                  have s539_ := (g.row (y97_.ref p529_ y98_)).2
                  have n1_ := li_0k
                  have n2_ := rgI x1
                  have n3_ := rgI a8_134
                  have n4_ := rgI (fX10_takes S (qO S p0 3) (qO S p0 4) x1)
                  have n5_ := rgI r10_135
                  have n6_ := rgI r19_162
                  have n7_ := rgI a23_189
                  have n10_ := rgI x2
                  have n10_ := t_subD (a := x2) (b := r10_135)
                  have n11_ := rgI (x2 - r10_135)
                  have n11_ := t_addD (a := (x2 - r10_135)) (b := r19_162)
                  have n12_ := rgI ((x2 - r10_135) + r19_162)
                  have n13_ := rgI a35_217
                  have n14_ := rgI (fX8_opAt S28_190 (qO S28_190 p0 4) x1)
                  have n15_ := rgI a39_218
                  have n16_ := rgI (fX6_goesOn S28_190 a35_217)
                  have n17_ := rgI (qI S28_190 p0 5)
                  have n18_ := rgI r27_190
                  have n20_ := li_1k
                  have n20_ := t_addD (a := x1) (b := (1 : Int32))
                  have n21_ := rgI (x1 + (1 : Int32))
                  have n22_ := rgI (qI S28_190 (qO S28_190 p0 4) 2)
                  have n23_ := rgI (qI S48_504 p0 7)
                  have n24_ := rgI (if (qI S28_190 p0 7) < (if a23_189 < (0 : Int32) then (0 : Int32) else a23_189) then (if a23_189 < (0 : Int32) then (0 : Int32) else a23_189) else (qI S28_190 p0 7))
                  have n25_ := rgI a54_533
                  have n26_ := rgI (fX8_targetCount S48_504 (qO S48_504 p0 4) x1)
                  omega
                · have s540_ := (g.hts y98_).2
                  have s541_ := y97_.len9 (y97_.ref (g.hts y98_).1.1 y98_) (by decide)
                  have s542_ := y97_.len9 (y97_.ref (g.hts y98_).1.2.1 y98_) (by decide)
                  have s543_ := y97_.len9 (y97_.ref (g.hts y98_).1.2.2 y98_) (by decide)
                  have s544_ := (g.unit (y97_.ref p528_ y98_)).2
                  have s545_ := (g.row (y97_.ref p529_ y98_)).2
                  have n1_ := rgI x1
                  have n2_ := rgI a8_134
                  have n3_ := rgI (fX10_takes S (qO S p0 3) (qO S p0 4) x1)
                  have n4_ := rgI r10_135
                  have n5_ := rgI r19_162
                  have n6_ := rgI a23_189
                  have n9_ := rgI x2
                  have n9_ := t_subD (a := x2) (b := r10_135)
                  have n10_ := rgI (x2 - r10_135)
                  have n10_ := t_addD (a := (x2 - r10_135)) (b := r19_162)
                  have n11_ := rgI ((x2 - r10_135) + r19_162)
                  have n12_ := rgI a35_217
                  have n13_ := rgI (fX8_opAt S28_190 (qO S28_190 p0 4) x1)
                  have n14_ := rgI a39_218
                  have n15_ := rgI (fX6_goesOn S28_190 a35_217)
                  have n16_ := rgI (qI S28_190 p0 5)
                  have n17_ := rgI r27_190
                  have n19_ := li_1k
                  have n19_ := t_addD (a := x1) (b := (1 : Int32))
                  have n20_ := rgI (x1 + (1 : Int32))
                  have n21_ := rgI (qI S28_190 (qO S28_190 p0 4) 2)
                  have n22_ := rgI (qI S48_504 p0 7)
                  have n23_ := rgI (if (qI S28_190 p0 7) < (if a23_189 < (0 : Int32) then (0 : Int32) else a23_189) then (if a23_189 < (0 : Int32) then (0 : Int32) else a23_189) else (qI S28_190 p0 7))
                  have n24_ := rgI a54_533
                  have n25_ := rgI (fX8_targetCount S48_504 (qO S48_504 p0 4) x1)
                  omega
                · have s546_ := (g.hts y98_).2
                  have s547_ := y97_.len9 (y97_.ref (g.hts y98_).1.1 y98_) (by decide)
                  have s548_ := y97_.len9 (y97_.ref (g.hts y98_).1.2.1 y98_) (by decide)
                  have s549_ := y97_.len9 (y97_.ref (g.hts y98_).1.2.2 y98_) (by decide)
                  have s550_ := (g.unit (y97_.ref p528_ y98_)).2
                  have s551_ := (g.row (y97_.ref p529_ y98_)).2
                  have n1_ := rgI x1
                  have n2_ := rgI a8_134
                  have n3_ := rgI (fX10_takes S (qO S p0 3) (qO S p0 4) x1)
                  have n4_ := rgI r10_135
                  have n5_ := rgI r19_162
                  have n6_ := rgI a23_189
                  have n9_ := rgI x2
                  have n9_ := t_subD (a := x2) (b := r10_135)
                  have n10_ := rgI (x2 - r10_135)
                  have n10_ := t_addD (a := (x2 - r10_135)) (b := r19_162)
                  have n11_ := rgI ((x2 - r10_135) + r19_162)
                  have n12_ := rgI a35_217
                  have n13_ := rgI (fX8_opAt S28_190 (qO S28_190 p0 4) x1)
                  have n14_ := rgI a39_218
                  have n15_ := rgI (fX6_goesOn S28_190 a35_217)
                  have n16_ := rgI (qI S28_190 p0 5)
                  have n17_ := rgI r27_190
                  have n19_ := li_1k
                  have n19_ := t_addD (a := x1) (b := (1 : Int32))
                  have n20_ := rgI (x1 + (1 : Int32))
                  have n21_ := rgI (qI S28_190 (qO S28_190 p0 4) 2)
                  have n22_ := rgI (qI S48_504 p0 7)
                  have n23_ := rgI (if (qI S28_190 p0 7) < (if a23_189 < (0 : Int32) then (0 : Int32) else a23_189) then (if a23_189 < (0 : Int32) then (0 : Int32) else a23_189) else (qI S28_190 p0 7))
                  have n24_ := rgI a54_533
                  have n25_ := rgI (fX8_targetCount S48_504 (qO S48_504 p0 4) x1)
                  omega
                · have s552_ := (g.hts y98_).2
                  have s553_ := y97_.len9 (y97_.ref (g.hts y98_).1.1 y98_) (by decide)
                  have s554_ := y97_.len9 (y97_.ref (g.hts y98_).1.2.1 y98_) (by decide)
                  have s555_ := y97_.len9 (y97_.ref (g.hts y98_).1.2.2 y98_) (by decide)
                  have s556_ := (g.unit (y97_.ref p528_ y98_)).2
                  have s557_ := (g.row (y97_.ref p529_ y98_)).2
                  have n1_ := li_0k
                  have n2_ := rgI x1
                  have n3_ := rgI a8_134
                  have n4_ := rgI (fX10_takes S (qO S p0 3) (qO S p0 4) x1)
                  have n5_ := rgI r10_135
                  have n6_ := rgI r19_162
                  have n7_ := rgI a23_189
                  have n10_ := rgI x2
                  have n10_ := t_subD (a := x2) (b := r10_135)
                  have n11_ := rgI (x2 - r10_135)
                  have n11_ := t_addD (a := (x2 - r10_135)) (b := r19_162)
                  have n12_ := rgI ((x2 - r10_135) + r19_162)
                  have n13_ := rgI a35_217
                  have n14_ := rgI (fX8_opAt S28_190 (qO S28_190 p0 4) x1)
                  have n15_ := rgI a39_218
                  have n16_ := rgI (fX6_goesOn S28_190 a35_217)
                  have n17_ := rgI (qI S28_190 p0 5)
                  have n18_ := rgI r27_190
                  have n20_ := li_1k
                  have n20_ := t_addD (a := x1) (b := (1 : Int32))
                  have n21_ := rgI (x1 + (1 : Int32))
                  have n22_ := rgI (qI S28_190 (qO S28_190 p0 4) 2)
                  have n23_ := rgI (qI S48_504 p0 7)
                  have n24_ := rgI (if (qI S28_190 p0 7) < (if a23_189 < (0 : Int32) then (0 : Int32) else a23_189) then (if a23_189 < (0 : Int32) then (0 : Int32) else a23_189) else (qI S28_190 p0 7))
                  have n25_ := rgI a54_533
                  have n26_ := rgI (fX8_targetCount S48_504 (qO S48_504 p0 4) x1)
                  omega
              · intro y100_
                refine ⟨_, frX4_comeTo y96_ (sgX4_comeTo y96_ g y100_ p529_), ?_⟩
                intro S90_558 q101_ y102_ y103_
                have t559_ : (qI S90_558 p0 7).toInt = (qI S48_504 p0 7).toInt := congrArg Int32.toInt (q101_.2.kI (j := 7) y100_ (by decide) (by decide))
                have t560_ : (qI S90_558 p0 5).toInt = (qI S48_504 p0 5).toInt := congrArg Int32.toInt (q101_.2.kI (j := 5) y100_ (by decide) (by decide))
                have t561_ : (qN S90_558 (qO S90_558 p0 1) : Int) = (qN S48_504 (qO S48_504 p0 1) : Int) := q101_.2.kL (j := 1) y96_ y100_ (g.hts y100_).1.2.1 (by decide) (by decide)
                have t562_ : (qN S90_558 (qO S90_558 p0 0) : Int) = (qN S48_504 (qO S48_504 p0 0) : Int) := q101_.2.kL (j := 0) y96_ y100_ (g.hts y100_).1.1 (by decide) (by decide)
                have t563_ : (qN S90_558 (qO S90_558 p0 2) : Int) = (qN S48_504 (qO S48_504 p0 2) : Int) := q101_.2.kL (j := 2) y96_ y100_ (g.hts y100_).1.2.2 (by decide) (by decide)
                have o564_ : qO S90_558 p0 3 = qO S48_504 p0 3 := qO_eq (q101_.2.kO y100_ (by decide) (by decide))
                have t565_ : (qI S90_558 (qO S90_558 p0 3) 8).toInt = (qI S48_504 (qO S48_504 p0 3) 8).toInt := by rw [o564_]; exact congrArg Int32.toInt (q101_.2.kI (j := 8) (y96_.ref p528_ y100_) (by decide) (by decide))
                have t566_ : (qI S90_558 (qO S90_558 p0 3) 4).toInt = (qI S48_504 (qO S48_504 p0 3) 4).toInt := by rw [o564_]; exact congrArg Int32.toInt (q101_.2.kI (j := 4) (y96_.ref p528_ y100_) (by decide) (by decide))
                have t567_ : (qN S90_558 (qO S90_558 (qO S90_558 p0 3) 13) : Int) = (qN S48_504 (qO S48_504 (qO S48_504 p0 3) 13) : Int) := by rw [o564_]; exact q101_.2.kL (j := 13) y96_ (y96_.ref p528_ y100_) (g.unit (y96_.ref p528_ y100_)).1.2.2.2.2.2.2.2.2 (by decide) (by decide)
                have t568_ : (qN S90_558 (qO S90_558 (qO S90_558 p0 3) 9) : Int) = (qN S48_504 (qO S48_504 (qO S48_504 p0 3) 9) : Int) := by rw [o564_]; exact q101_.2.kL (j := 9) y96_ (y96_.ref p528_ y100_) (g.unit (y96_.ref p528_ y100_)).1.2.2.2.2.1 (by decide) (by decide)
                have t569_ : (qN S90_558 (qO S90_558 (qO S90_558 p0 3) 5) : Int) = (qN S48_504 (qO S48_504 (qO S48_504 p0 3) 5) : Int) := by rw [o564_]; exact q101_.2.kL (j := 5) y96_ (y96_.ref p528_ y100_) (g.unit (y96_.ref p528_ y100_)).1.2.1 (by decide) (by decide)
                have o570_ : qO S90_558 p0 4 = qO S48_504 p0 4 := qO_eq (q101_.2.kO y100_ (by decide) (by decide))
                have t571_ : (qI S90_558 (qO S90_558 p0 4) 4).toInt = (qI S48_504 (qO S48_504 p0 4) 4).toInt := by rw [o570_]; exact congrArg Int32.toInt (q101_.2.kI (j := 4) (y96_.ref p529_ y100_) (by decide) (by decide))
                have t572_ : (qI S90_558 (qO S90_558 p0 4) 9).toInt = (qI S48_504 (qO S48_504 p0 4) 9).toInt := by rw [o570_]; exact congrArg Int32.toInt (q101_.2.kI (j := 9) (y96_.ref p529_ y100_) (by decide) (by decide))
                have t573_ : (qI S90_558 (qO S90_558 p0 4) 2).toInt = (qI S48_504 (qO S48_504 p0 4) 2).toInt := by rw [o570_]; exact congrArg Int32.toInt (q101_.2.kI (j := 2) (y96_.ref p529_ y100_) (by decide) (by decide))
                have t574_ : (qN S90_558 (qO S90_558 (qO S90_558 p0 4) 1) : Int) = (qN S48_504 (qO S48_504 (qO S48_504 p0 4) 1) : Int) := by rw [o570_]; exact q101_.2.kL (j := 1) y96_ (y96_.ref p529_ y100_) (g.row (y96_.ref p529_ y100_)).1.2.1 (by decide) (by decide)
                have t575_ : (qN S90_558 (qO S90_558 (qO S90_558 p0 4) 8) : Int) = (qN S48_504 (qO S48_504 (qO S48_504 p0 4) 8) : Int) := by rw [o570_]; exact q101_.2.kL (j := 8) y96_ (y96_.ref p529_ y100_) (g.row (y96_.ref p529_ y100_)).1.2.2.2.2.2.2 (by decide) (by decide)
                have t576_ : (qN S90_558 (qO S90_558 (qO S90_558 p0 4) 7) : Int) = (qN S48_504 (qO S48_504 (qO S48_504 p0 4) 7) : Int) := by rw [o570_]; exact q101_.2.kL (j := 7) y96_ (y96_.ref p529_ y100_) (g.row (y96_.ref p529_ y100_)).1.2.2.2.2.2.1 (by decide) (by decide)
                have t577_ : (qN S90_558 (qO S90_558 (qO S90_558 p0 4) 0) : Int) = (qN S48_504 (qO S48_504 (qO S48_504 p0 4) 0) : Int) := by rw [o570_]; exact q101_.2.kL (j := 0) y96_ (y96_.ref p529_ y100_) (g.row (y96_.ref p529_ y100_)).1.1 (by decide) (by decide)
                have t578_ : (qN S90_558 (qO S90_558 (qO S90_558 p0 4) 6) : Int) = (qN S48_504 (qO S48_504 (qO S48_504 p0 4) 6) : Int) := by rw [o570_]; exact q101_.2.kL (j := 6) y96_ (y96_.ref p529_ y100_) (g.row (y96_.ref p529_ y100_)).1.2.2.2.2.1 (by decide) (by decide)
                have t579_ : (qN S90_558 (qO S90_558 (qO S90_558 p0 4) 3) : Int) = (qN S48_504 (qO S48_504 (qO S48_504 p0 4) 3) : Int) := by rw [o570_]; exact q101_.2.kL (j := 3) y96_ (y96_.ref p529_ y100_) (g.row (y96_.ref p529_ y100_)).1.2.2.1 (by decide) (by decide)
                have t580_ : (qN S90_558 (qO S90_558 (qO S90_558 p0 4) 5) : Int) = (qN S48_504 (qO S48_504 (qO S48_504 p0 4) 5) : Int) := by rw [o570_]; exact q101_.2.kL (j := 5) y96_ (y96_.ref p529_ y100_) (g.row (y96_.ref p529_ y100_)).1.2.2.2.1 (by decide) (by decide)
                have p581_ : qR S90_558 p0 3 = some (qO S90_558 p0 3) := q101_.2.kP y100_ p528_ (by decide) (by decide)
                have p582_ : qR S90_558 p0 4 = some (qO S90_558 p0 4) := q101_.2.kP y100_ p529_ (by decide) (by decide)
                have k583_ : qT S90_558 p0 = 44 := q101_.2.1.T y100_ (by decide)
                have g : ShC B S90_558 := q101_.1.1
                unfold w_X4_spread_J150
                intro y104_ y105_ y106_
                refine ⟨?_, ?_⟩
                · exact p582_
                refine ⟨?_, ?_⟩
                · exact (dd_X8_targetCount y104_ g (y104_.ref p582_ y105_))
                intro a54_584 ea54_584 
                have ga54_584 := congrArg Int32.toInt ea54_584
                refine ⟨(2147483648 - (0 : Int32).toInt).toNat + 1, ?_⟩
                refine sg_X4_spread_L163  _ g p581_ p582_ ?_ ?_ ?_ ?_
                · have s585_ := (g.hts y105_).2
                  have s586_ := y104_.len9 (y104_.ref (g.hts y105_).1.1 y105_) (by decide)
                  have s587_ := y104_.len9 (y104_.ref (g.hts y105_).1.2.1 y105_) (by decide)
                  have s588_ := y104_.len9 (y104_.ref (g.hts y105_).1.2.2 y105_) (by decide)
                  have s589_ := (g.unit (y104_.ref p581_ y105_)).2
                  have s590_ := (g.row (y104_.ref p582_ y105_)).2
                  have n1_ := li_0k
                  have n2_ := rgI x1
                  have n3_ := rgI a8_134
                  have n4_ := rgI (fX10_takes S (qO S p0 3) (qO S p0 4) x1)
                  have n5_ := rgI r10_135
                  have n6_ := rgI r19_162
                  have n7_ := rgI a23_189
                  have n10_ := rgI x2
                  have n10_ := t_subD (a := x2) (b := r10_135)
                  have n11_ := rgI (x2 - r10_135)
                  have n11_ := t_addD (a := (x2 - r10_135)) (b := r19_162)
                  have n12_ := rgI ((x2 - r10_135) + r19_162)
                  have n13_ := rgI a35_217
                  have n14_ := rgI (fX8_opAt S28_190 (qO S28_190 p0 4) x1)
                  have n15_ := rgI a39_218
                  have n16_ := rgI (fX6_goesOn S28_190 a35_217)
                  have n17_ := rgI (qI S28_190 p0 5)
                  have n18_ := rgI r27_190
                  have n20_ := li_1k
                  have n20_ := t_addD (a := x1) (b := (1 : Int32))
                  have n21_ := rgI (x1 + (1 : Int32))
                  have n22_ := rgI (qI S28_190 (qO S28_190 p0 4) 2)
                  have n23_ := rgI (qI S48_504 p0 7)
                  have n24_ := rgI (if (qI S28_190 p0 7) < (if a23_189 < (0 : Int32) then (0 : Int32) else a23_189) then (if a23_189 < (0 : Int32) then (0 : Int32) else a23_189) else (qI S28_190 p0 7))
                  have n25_ := rgI a54_584
                  have n26_ := rgI (fX8_targetCount S90_558 (qO S90_558 p0 4) x1)
                  omega
                · have s591_ := (g.hts y105_).2
                  have s592_ := y104_.len9 (y104_.ref (g.hts y105_).1.1 y105_) (by decide)
                  have s593_ := y104_.len9 (y104_.ref (g.hts y105_).1.2.1 y105_) (by decide)
                  have s594_ := y104_.len9 (y104_.ref (g.hts y105_).1.2.2 y105_) (by decide)
                  have s595_ := (g.unit (y104_.ref p581_ y105_)).2
                  have s596_ := (g.row (y104_.ref p582_ y105_)).2
                  have n1_ := rgI x1
                  have n2_ := rgI a8_134
                  have n3_ := rgI (fX10_takes S (qO S p0 3) (qO S p0 4) x1)
                  have n4_ := rgI r10_135
                  have n5_ := rgI r19_162
                  have n6_ := rgI a23_189
                  have n9_ := rgI x2
                  have n9_ := t_subD (a := x2) (b := r10_135)
                  have n10_ := rgI (x2 - r10_135)
                  have n10_ := t_addD (a := (x2 - r10_135)) (b := r19_162)
                  have n11_ := rgI ((x2 - r10_135) + r19_162)
                  have n12_ := rgI a35_217
                  have n13_ := rgI (fX8_opAt S28_190 (qO S28_190 p0 4) x1)
                  have n14_ := rgI a39_218
                  have n15_ := rgI (fX6_goesOn S28_190 a35_217)
                  have n16_ := rgI (qI S28_190 p0 5)
                  have n17_ := rgI r27_190
                  have n19_ := li_1k
                  have n19_ := t_addD (a := x1) (b := (1 : Int32))
                  have n20_ := rgI (x1 + (1 : Int32))
                  have n21_ := rgI (qI S28_190 (qO S28_190 p0 4) 2)
                  have n22_ := rgI (qI S48_504 p0 7)
                  have n23_ := rgI (if (qI S28_190 p0 7) < (if a23_189 < (0 : Int32) then (0 : Int32) else a23_189) then (if a23_189 < (0 : Int32) then (0 : Int32) else a23_189) else (qI S28_190 p0 7))
                  have n24_ := rgI a54_584
                  have n25_ := rgI (fX8_targetCount S90_558 (qO S90_558 p0 4) x1)
                  omega
                · have s597_ := (g.hts y105_).2
                  have s598_ := y104_.len9 (y104_.ref (g.hts y105_).1.1 y105_) (by decide)
                  have s599_ := y104_.len9 (y104_.ref (g.hts y105_).1.2.1 y105_) (by decide)
                  have s600_ := y104_.len9 (y104_.ref (g.hts y105_).1.2.2 y105_) (by decide)
                  have s601_ := (g.unit (y104_.ref p581_ y105_)).2
                  have s602_ := (g.row (y104_.ref p582_ y105_)).2
                  have n1_ := rgI x1
                  have n2_ := rgI a8_134
                  have n3_ := rgI (fX10_takes S (qO S p0 3) (qO S p0 4) x1)
                  have n4_ := rgI r10_135
                  have n5_ := rgI r19_162
                  have n6_ := rgI a23_189
                  have n9_ := rgI x2
                  have n9_ := t_subD (a := x2) (b := r10_135)
                  have n10_ := rgI (x2 - r10_135)
                  have n10_ := t_addD (a := (x2 - r10_135)) (b := r19_162)
                  have n11_ := rgI ((x2 - r10_135) + r19_162)
                  have n12_ := rgI a35_217
                  have n13_ := rgI (fX8_opAt S28_190 (qO S28_190 p0 4) x1)
                  have n14_ := rgI a39_218
                  have n15_ := rgI (fX6_goesOn S28_190 a35_217)
                  have n16_ := rgI (qI S28_190 p0 5)
                  have n17_ := rgI r27_190
                  have n19_ := li_1k
                  have n19_ := t_addD (a := x1) (b := (1 : Int32))
                  have n20_ := rgI (x1 + (1 : Int32))
                  have n21_ := rgI (qI S28_190 (qO S28_190 p0 4) 2)
                  have n22_ := rgI (qI S48_504 p0 7)
                  have n23_ := rgI (if (qI S28_190 p0 7) < (if a23_189 < (0 : Int32) then (0 : Int32) else a23_189) then (if a23_189 < (0 : Int32) then (0 : Int32) else a23_189) else (qI S28_190 p0 7))
                  have n24_ := rgI a54_584
                  have n25_ := rgI (fX8_targetCount S90_558 (qO S90_558 p0 4) x1)
                  omega
                · have s603_ := (g.hts y105_).2
                  have s604_ := y104_.len9 (y104_.ref (g.hts y105_).1.1 y105_) (by decide)
                  have s605_ := y104_.len9 (y104_.ref (g.hts y105_).1.2.1 y105_) (by decide)
                  have s606_ := y104_.len9 (y104_.ref (g.hts y105_).1.2.2 y105_) (by decide)
                  have s607_ := (g.unit (y104_.ref p581_ y105_)).2
                  have s608_ := (g.row (y104_.ref p582_ y105_)).2
                  have n1_ := li_0k
                  have n2_ := rgI x1
                  have n3_ := rgI a8_134
                  have n4_ := rgI (fX10_takes S (qO S p0 3) (qO S p0 4) x1)
                  have n5_ := rgI r10_135
                  have n6_ := rgI r19_162
                  have n7_ := rgI a23_189
                  have n10_ := rgI x2
                  have n10_ := t_subD (a := x2) (b := r10_135)
                  have n11_ := rgI (x2 - r10_135)
                  have n11_ := t_addD (a := (x2 - r10_135)) (b := r19_162)
                  have n12_ := rgI ((x2 - r10_135) + r19_162)
                  have n13_ := rgI a35_217
                  have n14_ := rgI (fX8_opAt S28_190 (qO S28_190 p0 4) x1)
                  have n15_ := rgI a39_218
                  have n16_ := rgI (fX6_goesOn S28_190 a35_217)
                  have n17_ := rgI (qI S28_190 p0 5)
                  have n18_ := rgI r27_190
                  have n20_ := li_1k
                  have n20_ := t_addD (a := x1) (b := (1 : Int32))
                  have n21_ := rgI (x1 + (1 : Int32))
                  have n22_ := rgI (qI S28_190 (qO S28_190 p0 4) 2)
                  have n23_ := rgI (qI S48_504 p0 7)
                  have n24_ := rgI (if (qI S28_190 p0 7) < (if a23_189 < (0 : Int32) then (0 : Int32) else a23_189) then (if a23_189 < (0 : Int32) then (0 : Int32) else a23_189) else (qI S28_190 p0 7))
                  have n25_ := rgI a54_584
                  have n26_ := rgI (fX8_targetCount S90_558 (qO S90_558 p0 4) x1)
                  omega
            · unfold w_X4_spread_J127
              intro y107_ y108_ y109_ y110_ y111_ y112_
              intro S48_609 eS48_609 y113_ y114_
              have f610_ : cfr [] [(44, 7)] S28_190 S48_609 := by rw [eS48_609]; exact cfr.oI y113_ (by decide)
              have t611_ : (qI S48_609 p0 6).toInt = (qI S28_190 p0 6).toInt := congrArg Int32.toInt (f610_.kI (j := 6) y109_ (by decide) (by decide))
              have t612_ : (qI S48_609 p0 5).toInt = (qI S28_190 p0 5).toInt := congrArg Int32.toInt (f610_.kI (j := 5) y109_ (by decide) (by decide))
              have t613_ : (qN S48_609 (qO S48_609 p0 1) : Int) = (qN S28_190 (qO S28_190 p0 1) : Int) := f610_.kL (j := 1) y107_ y109_ (g.hts y109_).1.2.1 (by decide) (by decide)
              have t614_ : (qN S48_609 (qO S48_609 p0 0) : Int) = (qN S28_190 (qO S28_190 p0 0) : Int) := f610_.kL (j := 0) y107_ y109_ (g.hts y109_).1.1 (by decide) (by decide)
              have t615_ : (qN S48_609 (qO S48_609 p0 2) : Int) = (qN S28_190 (qO S28_190 p0 2) : Int) := f610_.kL (j := 2) y107_ y109_ (g.hts y109_).1.2.2 (by decide) (by decide)
              have o616_ : qO S48_609 p0 3 = qO S28_190 p0 3 := qO_eq (f610_.kO y109_ (by decide) (by decide))
              have t617_ : (qI S48_609 (qO S48_609 p0 3) 8).toInt = (qI S28_190 (qO S28_190 p0 3) 8).toInt := by rw [o616_]; exact congrArg Int32.toInt (f610_.kI (j := 8) (y107_.ref p214_ y109_) (by decide) (by decide))
              have t618_ : (qI S48_609 (qO S48_609 p0 3) 4).toInt = (qI S28_190 (qO S28_190 p0 3) 4).toInt := by rw [o616_]; exact congrArg Int32.toInt (f610_.kI (j := 4) (y107_.ref p214_ y109_) (by decide) (by decide))
              have t619_ : (qN S48_609 (qO S48_609 (qO S48_609 p0 3) 13) : Int) = (qN S28_190 (qO S28_190 (qO S28_190 p0 3) 13) : Int) := by rw [o616_]; exact f610_.kL (j := 13) y107_ (y107_.ref p214_ y109_) (g.unit (y107_.ref p214_ y109_)).1.2.2.2.2.2.2.2.2 (by decide) (by decide)
              have t620_ : (qN S48_609 (qO S48_609 (qO S48_609 p0 3) 9) : Int) = (qN S28_190 (qO S28_190 (qO S28_190 p0 3) 9) : Int) := by rw [o616_]; exact f610_.kL (j := 9) y107_ (y107_.ref p214_ y109_) (g.unit (y107_.ref p214_ y109_)).1.2.2.2.2.1 (by decide) (by decide)
              have t621_ : (qN S48_609 (qO S48_609 (qO S48_609 p0 3) 5) : Int) = (qN S28_190 (qO S28_190 (qO S28_190 p0 3) 5) : Int) := by rw [o616_]; exact f610_.kL (j := 5) y107_ (y107_.ref p214_ y109_) (g.unit (y107_.ref p214_ y109_)).1.2.1 (by decide) (by decide)
              have o622_ : qO S48_609 p0 4 = qO S28_190 p0 4 := qO_eq (f610_.kO y109_ (by decide) (by decide))
              have t623_ : (qI S48_609 (qO S48_609 p0 4) 4).toInt = (qI S28_190 (qO S28_190 p0 4) 4).toInt := by rw [o622_]; exact congrArg Int32.toInt (f610_.kI (j := 4) (y107_.ref p215_ y109_) (by decide) (by decide))
              have t624_ : (qI S48_609 (qO S48_609 p0 4) 9).toInt = (qI S28_190 (qO S28_190 p0 4) 9).toInt := by rw [o622_]; exact congrArg Int32.toInt (f610_.kI (j := 9) (y107_.ref p215_ y109_) (by decide) (by decide))
              have t625_ : (qI S48_609 (qO S48_609 p0 4) 2).toInt = (qI S28_190 (qO S28_190 p0 4) 2).toInt := by rw [o622_]; exact congrArg Int32.toInt (f610_.kI (j := 2) (y107_.ref p215_ y109_) (by decide) (by decide))
              have t626_ : (qN S48_609 (qO S48_609 (qO S48_609 p0 4) 1) : Int) = (qN S28_190 (qO S28_190 (qO S28_190 p0 4) 1) : Int) := by rw [o622_]; exact f610_.kL (j := 1) y107_ (y107_.ref p215_ y109_) (g.row (y107_.ref p215_ y109_)).1.2.1 (by decide) (by decide)
              have t627_ : (qN S48_609 (qO S48_609 (qO S48_609 p0 4) 8) : Int) = (qN S28_190 (qO S28_190 (qO S28_190 p0 4) 8) : Int) := by rw [o622_]; exact f610_.kL (j := 8) y107_ (y107_.ref p215_ y109_) (g.row (y107_.ref p215_ y109_)).1.2.2.2.2.2.2 (by decide) (by decide)
              have t628_ : (qN S48_609 (qO S48_609 (qO S48_609 p0 4) 7) : Int) = (qN S28_190 (qO S28_190 (qO S28_190 p0 4) 7) : Int) := by rw [o622_]; exact f610_.kL (j := 7) y107_ (y107_.ref p215_ y109_) (g.row (y107_.ref p215_ y109_)).1.2.2.2.2.2.1 (by decide) (by decide)
              have t629_ : (qN S48_609 (qO S48_609 (qO S48_609 p0 4) 0) : Int) = (qN S28_190 (qO S28_190 (qO S28_190 p0 4) 0) : Int) := by rw [o622_]; exact f610_.kL (j := 0) y107_ (y107_.ref p215_ y109_) (g.row (y107_.ref p215_ y109_)).1.1 (by decide) (by decide)
              have t630_ : (qN S48_609 (qO S48_609 (qO S48_609 p0 4) 6) : Int) = (qN S28_190 (qO S28_190 (qO S28_190 p0 4) 6) : Int) := by rw [o622_]; exact f610_.kL (j := 6) y107_ (y107_.ref p215_ y109_) (g.row (y107_.ref p215_ y109_)).1.2.2.2.2.1 (by decide) (by decide)
              have t631_ : (qN S48_609 (qO S48_609 (qO S48_609 p0 4) 3) : Int) = (qN S28_190 (qO S28_190 (qO S28_190 p0 4) 3) : Int) := by rw [o622_]; exact f610_.kL (j := 3) y107_ (y107_.ref p215_ y109_) (g.row (y107_.ref p215_ y109_)).1.2.2.1 (by decide) (by decide)
              have t632_ : (qN S48_609 (qO S48_609 (qO S48_609 p0 4) 5) : Int) = (qN S28_190 (qO S28_190 (qO S28_190 p0 4) 5) : Int) := by rw [o622_]; exact f610_.kL (j := 5) y107_ (y107_.ref p215_ y109_) (g.row (y107_.ref p215_ y109_)).1.2.2.2.1 (by decide) (by decide)
              have p633_ : qR S48_609 p0 3 = some (qO S48_609 p0 3) := f610_.kP y109_ p214_ (by decide) (by decide)
              have p634_ : qR S48_609 p0 4 = some (qO S48_609 p0 4) := f610_.kP y109_ p215_ (by decide) (by decide)
              have k635_ : qT S48_609 p0 = 44 := f610_.1.T y109_ (by decide)
              have t636_ : (qI S48_609 p0 7).toInt = (if (qI S28_190 p0 7) < (if a23_189 < (1 : Int32) then (1 : Int32) else a23_189) then (if a23_189 < (1 : Int32) then (1 : Int32) else a23_189) else (qI S28_190 p0 7)).toInt := by rw [eS48_609, qI_wI, if_pos ⟨rfl, rfl⟩]
              have g : ShC B S48_609 := ShC.ws y107_ g f610_ (by rw [eS48_609]; rfl) (by rw [eS48_609]; rfl) (by rw [eS48_609]; rfl) rfl rfl
              refine ⟨fun c637_ => ?_, fun c637_ => ?_⟩
              · unfold w_X4_spread_J150
                intro y115_ y116_ y117_
                refine ⟨?_, ?_⟩
                · exact p634_
                refine ⟨?_, ?_⟩
                · exact (dd_X8_targetCount y115_ g (y115_.ref p634_ y116_))
                intro a54_638 ea54_638 
                have ga54_638 := congrArg Int32.toInt ea54_638
                refine ⟨(2147483648 - (0 : Int32).toInt).toNat + 1, ?_⟩
                refine sg_X4_spread_L163  _ g p633_ p634_ ?_ ?_ ?_ ?_
                · have s639_ := (g.hts y116_).2
                  have s640_ := y115_.len9 (y115_.ref (g.hts y116_).1.1 y116_) (by decide)
                  have s641_ := y115_.len9 (y115_.ref (g.hts y116_).1.2.1 y116_) (by decide)
                  have s642_ := y115_.len9 (y115_.ref (g.hts y116_).1.2.2 y116_) (by decide)
                  have s643_ := (g.unit (y115_.ref p633_ y116_)).2
                  have s644_ := (g.row (y115_.ref p634_ y116_)).2
                  have n1_ := li_0k
                  have n2_ := rgI x1
                  have n3_ := rgI a8_134
                  have n4_ := rgI (fX10_takes S (qO S p0 3) (qO S p0 4) x1)
                  have n5_ := rgI r10_135
                  have n6_ := rgI r19_162
                  have n7_ := rgI a23_189
                  have n10_ := rgI x2
                  have n10_ := t_subD (a := x2) (b := r10_135)
                  have n11_ := rgI (x2 - r10_135)
                  have n11_ := t_addD (a := (x2 - r10_135)) (b := r19_162)
                  have n12_ := rgI ((x2 - r10_135) + r19_162)
                  have n13_ := rgI a35_217
                  have n14_ := rgI (fX8_opAt S28_190 (qO S28_190 p0 4) x1)
                  have n15_ := rgI a39_218
                  have n16_ := rgI (fX6_goesOn S28_190 a35_217)
                  have n17_ := rgI (qI S28_190 p0 5)
                  have n18_ := rgI r27_190
                  have n20_ := li_1k
                  have n20_ := t_addD (a := x1) (b := (1 : Int32))
                  have n21_ := rgI (x1 + (1 : Int32))
                  have n22_ := rgI (qI S28_190 (qO S28_190 p0 4) 2)
                  have n23_ := rgI (qI S48_609 p0 7)
                  have n24_ := rgI (if (qI S28_190 p0 7) < (if a23_189 < (1 : Int32) then (1 : Int32) else a23_189) then (if a23_189 < (1 : Int32) then (1 : Int32) else a23_189) else (qI S28_190 p0 7))
                  have n25_ := rgI a54_638
                  have n26_ := rgI (fX8_targetCount S48_609 (qO S48_609 p0 4) x1)
                  omega
                · have s645_ := (g.hts y116_).2
                  have s646_ := y115_.len9 (y115_.ref (g.hts y116_).1.1 y116_) (by decide)
                  have s647_ := y115_.len9 (y115_.ref (g.hts y116_).1.2.1 y116_) (by decide)
                  have s648_ := y115_.len9 (y115_.ref (g.hts y116_).1.2.2 y116_) (by decide)
                  have s649_ := (g.unit (y115_.ref p633_ y116_)).2
                  have s650_ := (g.row (y115_.ref p634_ y116_)).2
                  have n1_ := rgI x1
                  have n2_ := rgI a8_134
                  have n3_ := rgI (fX10_takes S (qO S p0 3) (qO S p0 4) x1)
                  have n4_ := rgI r10_135
                  have n5_ := rgI r19_162
                  have n6_ := rgI a23_189
                  have n9_ := rgI x2
                  have n9_ := t_subD (a := x2) (b := r10_135)
                  have n10_ := rgI (x2 - r10_135)
                  have n10_ := t_addD (a := (x2 - r10_135)) (b := r19_162)
                  have n11_ := rgI ((x2 - r10_135) + r19_162)
                  have n12_ := rgI a35_217
                  have n13_ := rgI (fX8_opAt S28_190 (qO S28_190 p0 4) x1)
                  have n14_ := rgI a39_218
                  have n15_ := rgI (fX6_goesOn S28_190 a35_217)
                  have n16_ := rgI (qI S28_190 p0 5)
                  have n17_ := rgI r27_190
                  have n19_ := li_1k
                  have n19_ := t_addD (a := x1) (b := (1 : Int32))
                  have n20_ := rgI (x1 + (1 : Int32))
                  have n21_ := rgI (qI S28_190 (qO S28_190 p0 4) 2)
                  have n22_ := rgI (qI S48_609 p0 7)
                  have n23_ := rgI (if (qI S28_190 p0 7) < (if a23_189 < (1 : Int32) then (1 : Int32) else a23_189) then (if a23_189 < (1 : Int32) then (1 : Int32) else a23_189) else (qI S28_190 p0 7))
                  have n24_ := rgI a54_638
                  have n25_ := rgI (fX8_targetCount S48_609 (qO S48_609 p0 4) x1)
                  omega
                · have s651_ := (g.hts y116_).2
                  have s652_ := y115_.len9 (y115_.ref (g.hts y116_).1.1 y116_) (by decide)
                  have s653_ := y115_.len9 (y115_.ref (g.hts y116_).1.2.1 y116_) (by decide)
                  have s654_ := y115_.len9 (y115_.ref (g.hts y116_).1.2.2 y116_) (by decide)
                  have s655_ := (g.unit (y115_.ref p633_ y116_)).2
                  have s656_ := (g.row (y115_.ref p634_ y116_)).2
                  have n1_ := rgI x1
                  have n2_ := rgI a8_134
                  have n3_ := rgI (fX10_takes S (qO S p0 3) (qO S p0 4) x1)
                  have n4_ := rgI r10_135
                  have n5_ := rgI r19_162
                  have n6_ := rgI a23_189
                  have n9_ := rgI x2
                  have n9_ := t_subD (a := x2) (b := r10_135)
                  have n10_ := rgI (x2 - r10_135)
                  have n10_ := t_addD (a := (x2 - r10_135)) (b := r19_162)
                  have n11_ := rgI ((x2 - r10_135) + r19_162)
                  have n12_ := rgI a35_217
                  have n13_ := rgI (fX8_opAt S28_190 (qO S28_190 p0 4) x1)
                  have n14_ := rgI a39_218
                  have n15_ := rgI (fX6_goesOn S28_190 a35_217)
                  have n16_ := rgI (qI S28_190 p0 5)
                  have n17_ := rgI r27_190
                  have n19_ := li_1k
                  have n19_ := t_addD (a := x1) (b := (1 : Int32))
                  have n20_ := rgI (x1 + (1 : Int32))
                  have n21_ := rgI (qI S28_190 (qO S28_190 p0 4) 2)
                  have n22_ := rgI (qI S48_609 p0 7)
                  have n23_ := rgI (if (qI S28_190 p0 7) < (if a23_189 < (1 : Int32) then (1 : Int32) else a23_189) then (if a23_189 < (1 : Int32) then (1 : Int32) else a23_189) else (qI S28_190 p0 7))
                  have n24_ := rgI a54_638
                  have n25_ := rgI (fX8_targetCount S48_609 (qO S48_609 p0 4) x1)
                  omega
                · have s657_ := (g.hts y116_).2
                  have s658_ := y115_.len9 (y115_.ref (g.hts y116_).1.1 y116_) (by decide)
                  have s659_ := y115_.len9 (y115_.ref (g.hts y116_).1.2.1 y116_) (by decide)
                  have s660_ := y115_.len9 (y115_.ref (g.hts y116_).1.2.2 y116_) (by decide)
                  have s661_ := (g.unit (y115_.ref p633_ y116_)).2
                  have s662_ := (g.row (y115_.ref p634_ y116_)).2
                  have n1_ := li_0k
                  have n2_ := rgI x1
                  have n3_ := rgI a8_134
                  have n4_ := rgI (fX10_takes S (qO S p0 3) (qO S p0 4) x1)
                  have n5_ := rgI r10_135
                  have n6_ := rgI r19_162
                  have n7_ := rgI a23_189
                  have n10_ := rgI x2
                  have n10_ := t_subD (a := x2) (b := r10_135)
                  have n11_ := rgI (x2 - r10_135)
                  have n11_ := t_addD (a := (x2 - r10_135)) (b := r19_162)
                  have n12_ := rgI ((x2 - r10_135) + r19_162)
                  have n13_ := rgI a35_217
                  have n14_ := rgI (fX8_opAt S28_190 (qO S28_190 p0 4) x1)
                  have n15_ := rgI a39_218
                  have n16_ := rgI (fX6_goesOn S28_190 a35_217)
                  have n17_ := rgI (qI S28_190 p0 5)
                  have n18_ := rgI r27_190
                  have n20_ := li_1k
                  have n20_ := t_addD (a := x1) (b := (1 : Int32))
                  have n21_ := rgI (x1 + (1 : Int32))
                  have n22_ := rgI (qI S28_190 (qO S28_190 p0 4) 2)
                  have n23_ := rgI (qI S48_609 p0 7)
                  have n24_ := rgI (if (qI S28_190 p0 7) < (if a23_189 < (1 : Int32) then (1 : Int32) else a23_189) then (if a23_189 < (1 : Int32) then (1 : Int32) else a23_189) else (qI S28_190 p0 7))
                  have n25_ := rgI a54_638
                  have n26_ := rgI (fX8_targetCount S48_609 (qO S48_609 p0 4) x1)
                  omega
              · intro y118_
                refine ⟨_, frX4_comeTo y114_ (sgX4_comeTo y114_ g y118_ p634_), ?_⟩
                intro S90_663 q119_ y120_ y121_
                have t664_ : (qI S90_663 p0 7).toInt = (qI S48_609 p0 7).toInt := congrArg Int32.toInt (q119_.2.kI (j := 7) y118_ (by decide) (by decide))
                have t665_ : (qI S90_663 p0 5).toInt = (qI S48_609 p0 5).toInt := congrArg Int32.toInt (q119_.2.kI (j := 5) y118_ (by decide) (by decide))
                have t666_ : (qN S90_663 (qO S90_663 p0 1) : Int) = (qN S48_609 (qO S48_609 p0 1) : Int) := q119_.2.kL (j := 1) y114_ y118_ (g.hts y118_).1.2.1 (by decide) (by decide)
                have t667_ : (qN S90_663 (qO S90_663 p0 0) : Int) = (qN S48_609 (qO S48_609 p0 0) : Int) := q119_.2.kL (j := 0) y114_ y118_ (g.hts y118_).1.1 (by decide) (by decide)
                have t668_ : (qN S90_663 (qO S90_663 p0 2) : Int) = (qN S48_609 (qO S48_609 p0 2) : Int) := q119_.2.kL (j := 2) y114_ y118_ (g.hts y118_).1.2.2 (by decide) (by decide)
                have o669_ : qO S90_663 p0 3 = qO S48_609 p0 3 := qO_eq (q119_.2.kO y118_ (by decide) (by decide))
                have t670_ : (qI S90_663 (qO S90_663 p0 3) 8).toInt = (qI S48_609 (qO S48_609 p0 3) 8).toInt := by rw [o669_]; exact congrArg Int32.toInt (q119_.2.kI (j := 8) (y114_.ref p633_ y118_) (by decide) (by decide))
                have t671_ : (qI S90_663 (qO S90_663 p0 3) 4).toInt = (qI S48_609 (qO S48_609 p0 3) 4).toInt := by rw [o669_]; exact congrArg Int32.toInt (q119_.2.kI (j := 4) (y114_.ref p633_ y118_) (by decide) (by decide))
                have t672_ : (qN S90_663 (qO S90_663 (qO S90_663 p0 3) 13) : Int) = (qN S48_609 (qO S48_609 (qO S48_609 p0 3) 13) : Int) := by rw [o669_]; exact q119_.2.kL (j := 13) y114_ (y114_.ref p633_ y118_) (g.unit (y114_.ref p633_ y118_)).1.2.2.2.2.2.2.2.2 (by decide) (by decide)
                have t673_ : (qN S90_663 (qO S90_663 (qO S90_663 p0 3) 9) : Int) = (qN S48_609 (qO S48_609 (qO S48_609 p0 3) 9) : Int) := by rw [o669_]; exact q119_.2.kL (j := 9) y114_ (y114_.ref p633_ y118_) (g.unit (y114_.ref p633_ y118_)).1.2.2.2.2.1 (by decide) (by decide)
                have t674_ : (qN S90_663 (qO S90_663 (qO S90_663 p0 3) 5) : Int) = (qN S48_609 (qO S48_609 (qO S48_609 p0 3) 5) : Int) := by rw [o669_]; exact q119_.2.kL (j := 5) y114_ (y114_.ref p633_ y118_) (g.unit (y114_.ref p633_ y118_)).1.2.1 (by decide) (by decide)
                have o675_ : qO S90_663 p0 4 = qO S48_609 p0 4 := qO_eq (q119_.2.kO y118_ (by decide) (by decide))
                have t676_ : (qI S90_663 (qO S90_663 p0 4) 4).toInt = (qI S48_609 (qO S48_609 p0 4) 4).toInt := by rw [o675_]; exact congrArg Int32.toInt (q119_.2.kI (j := 4) (y114_.ref p634_ y118_) (by decide) (by decide))
                have t677_ : (qI S90_663 (qO S90_663 p0 4) 9).toInt = (qI S48_609 (qO S48_609 p0 4) 9).toInt := by rw [o675_]; exact congrArg Int32.toInt (q119_.2.kI (j := 9) (y114_.ref p634_ y118_) (by decide) (by decide))
                have t678_ : (qI S90_663 (qO S90_663 p0 4) 2).toInt = (qI S48_609 (qO S48_609 p0 4) 2).toInt := by rw [o675_]; exact congrArg Int32.toInt (q119_.2.kI (j := 2) (y114_.ref p634_ y118_) (by decide) (by decide))
                have t679_ : (qN S90_663 (qO S90_663 (qO S90_663 p0 4) 1) : Int) = (qN S48_609 (qO S48_609 (qO S48_609 p0 4) 1) : Int) := by rw [o675_]; exact q119_.2.kL (j := 1) y114_ (y114_.ref p634_ y118_) (g.row (y114_.ref p634_ y118_)).1.2.1 (by decide) (by decide)
                have t680_ : (qN S90_663 (qO S90_663 (qO S90_663 p0 4) 8) : Int) = (qN S48_609 (qO S48_609 (qO S48_609 p0 4) 8) : Int) := by rw [o675_]; exact q119_.2.kL (j := 8) y114_ (y114_.ref p634_ y118_) (g.row (y114_.ref p634_ y118_)).1.2.2.2.2.2.2 (by decide) (by decide)
                have t681_ : (qN S90_663 (qO S90_663 (qO S90_663 p0 4) 7) : Int) = (qN S48_609 (qO S48_609 (qO S48_609 p0 4) 7) : Int) := by rw [o675_]; exact q119_.2.kL (j := 7) y114_ (y114_.ref p634_ y118_) (g.row (y114_.ref p634_ y118_)).1.2.2.2.2.2.1 (by decide) (by decide)
                have t682_ : (qN S90_663 (qO S90_663 (qO S90_663 p0 4) 0) : Int) = (qN S48_609 (qO S48_609 (qO S48_609 p0 4) 0) : Int) := by rw [o675_]; exact q119_.2.kL (j := 0) y114_ (y114_.ref p634_ y118_) (g.row (y114_.ref p634_ y118_)).1.1 (by decide) (by decide)
                have t683_ : (qN S90_663 (qO S90_663 (qO S90_663 p0 4) 6) : Int) = (qN S48_609 (qO S48_609 (qO S48_609 p0 4) 6) : Int) := by rw [o675_]; exact q119_.2.kL (j := 6) y114_ (y114_.ref p634_ y118_) (g.row (y114_.ref p634_ y118_)).1.2.2.2.2.1 (by decide) (by decide)
                have t684_ : (qN S90_663 (qO S90_663 (qO S90_663 p0 4) 3) : Int) = (qN S48_609 (qO S48_609 (qO S48_609 p0 4) 3) : Int) := by rw [o675_]; exact q119_.2.kL (j := 3) y114_ (y114_.ref p634_ y118_) (g.row (y114_.ref p634_ y118_)).1.2.2.1 (by decide) (by decide)
                have t685_ : (qN S90_663 (qO S90_663 (qO S90_663 p0 4) 5) : Int) = (qN S48_609 (qO S48_609 (qO S48_609 p0 4) 5) : Int) := by rw [o675_]; exact q119_.2.kL (j := 5) y114_ (y114_.ref p634_ y118_) (g.row (y114_.ref p634_ y118_)).1.2.2.2.1 (by decide) (by decide)
                have p686_ : qR S90_663 p0 3 = some (qO S90_663 p0 3) := q119_.2.kP y118_ p633_ (by decide) (by decide)
                have p687_ : qR S90_663 p0 4 = some (qO S90_663 p0 4) := q119_.2.kP y118_ p634_ (by decide) (by decide)
                have k688_ : qT S90_663 p0 = 44 := q119_.2.1.T y118_ (by decide)
                have g : ShC B S90_663 := q119_.1.1
                unfold w_X4_spread_J150
                intro y122_ y123_ y124_
                refine ⟨?_, ?_⟩
                · exact p687_
                refine ⟨?_, ?_⟩
                · exact (dd_X8_targetCount y122_ g (y122_.ref p687_ y123_))
                intro a54_689 ea54_689 
                have ga54_689 := congrArg Int32.toInt ea54_689
                refine ⟨(2147483648 - (0 : Int32).toInt).toNat + 1, ?_⟩
                refine sg_X4_spread_L163  _ g p686_ p687_ ?_ ?_ ?_ ?_
                · have s690_ := (g.hts y123_).2
                  have s691_ := y122_.len9 (y122_.ref (g.hts y123_).1.1 y123_) (by decide)
                  have s692_ := y122_.len9 (y122_.ref (g.hts y123_).1.2.1 y123_) (by decide)
                  have s693_ := y122_.len9 (y122_.ref (g.hts y123_).1.2.2 y123_) (by decide)
                  have s694_ := (g.unit (y122_.ref p686_ y123_)).2
                  have s695_ := (g.row (y122_.ref p687_ y123_)).2
                  have n1_ := li_0k
                  have n2_ := rgI x1
                  have n3_ := rgI a8_134
                  have n4_ := rgI (fX10_takes S (qO S p0 3) (qO S p0 4) x1)
                  have n5_ := rgI r10_135
                  have n6_ := rgI r19_162
                  have n7_ := rgI a23_189
                  have n10_ := rgI x2
                  have n10_ := t_subD (a := x2) (b := r10_135)
                  have n11_ := rgI (x2 - r10_135)
                  have n11_ := t_addD (a := (x2 - r10_135)) (b := r19_162)
                  have n12_ := rgI ((x2 - r10_135) + r19_162)
                  have n13_ := rgI a35_217
                  have n14_ := rgI (fX8_opAt S28_190 (qO S28_190 p0 4) x1)
                  have n15_ := rgI a39_218
                  have n16_ := rgI (fX6_goesOn S28_190 a35_217)
                  have n17_ := rgI (qI S28_190 p0 5)
                  have n18_ := rgI r27_190
                  have n20_ := li_1k
                  have n20_ := t_addD (a := x1) (b := (1 : Int32))
                  have n21_ := rgI (x1 + (1 : Int32))
                  have n22_ := rgI (qI S28_190 (qO S28_190 p0 4) 2)
                  have n23_ := rgI (qI S48_609 p0 7)
                  have n24_ := rgI (if (qI S28_190 p0 7) < (if a23_189 < (1 : Int32) then (1 : Int32) else a23_189) then (if a23_189 < (1 : Int32) then (1 : Int32) else a23_189) else (qI S28_190 p0 7))
                  have n25_ := rgI a54_689
                  have n26_ := rgI (fX8_targetCount S90_663 (qO S90_663 p0 4) x1)
                  omega
                · have s696_ := (g.hts y123_).2
                  have s697_ := y122_.len9 (y122_.ref (g.hts y123_).1.1 y123_) (by decide)
                  have s698_ := y122_.len9 (y122_.ref (g.hts y123_).1.2.1 y123_) (by decide)
                  have s699_ := y122_.len9 (y122_.ref (g.hts y123_).1.2.2 y123_) (by decide)
                  have s700_ := (g.unit (y122_.ref p686_ y123_)).2
                  have s701_ := (g.row (y122_.ref p687_ y123_)).2
                  have n1_ := rgI x1
                  have n2_ := rgI a8_134
                  have n3_ := rgI (fX10_takes S (qO S p0 3) (qO S p0 4) x1)
                  have n4_ := rgI r10_135
                  have n5_ := rgI r19_162
                  have n6_ := rgI a23_189
                  have n9_ := rgI x2
                  have n9_ := t_subD (a := x2) (b := r10_135)
                  have n10_ := rgI (x2 - r10_135)
                  have n10_ := t_addD (a := (x2 - r10_135)) (b := r19_162)
                  have n11_ := rgI ((x2 - r10_135) + r19_162)
                  have n12_ := rgI a35_217
                  have n13_ := rgI (fX8_opAt S28_190 (qO S28_190 p0 4) x1)
                  have n14_ := rgI a39_218
                  have n15_ := rgI (fX6_goesOn S28_190 a35_217)
                  have n16_ := rgI (qI S28_190 p0 5)
                  have n17_ := rgI r27_190
                  have n19_ := li_1k
                  have n19_ := t_addD (a := x1) (b := (1 : Int32))
                  have n20_ := rgI (x1 + (1 : Int32))
                  have n21_ := rgI (qI S28_190 (qO S28_190 p0 4) 2)
                  have n22_ := rgI (qI S48_609 p0 7)
                  have n23_ := rgI (if (qI S28_190 p0 7) < (if a23_189 < (1 : Int32) then (1 : Int32) else a23_189) then (if a23_189 < (1 : Int32) then (1 : Int32) else a23_189) else (qI S28_190 p0 7))
                  have n24_ := rgI a54_689
                  have n25_ := rgI (fX8_targetCount S90_663 (qO S90_663 p0 4) x1)
                  omega
                · have s702_ := (g.hts y123_).2
                  have s703_ := y122_.len9 (y122_.ref (g.hts y123_).1.1 y123_) (by decide)
                  have s704_ := y122_.len9 (y122_.ref (g.hts y123_).1.2.1 y123_) (by decide)
                  have s705_ := y122_.len9 (y122_.ref (g.hts y123_).1.2.2 y123_) (by decide)
                  have s706_ := (g.unit (y122_.ref p686_ y123_)).2
                  have s707_ := (g.row (y122_.ref p687_ y123_)).2
                  have n1_ := rgI x1
                  have n2_ := rgI a8_134
                  have n3_ := rgI (fX10_takes S (qO S p0 3) (qO S p0 4) x1)
                  have n4_ := rgI r10_135
                  have n5_ := rgI r19_162
                  have n6_ := rgI a23_189
                  have n9_ := rgI x2
                  have n9_ := t_subD (a := x2) (b := r10_135)
                  have n10_ := rgI (x2 - r10_135)
                  have n10_ := t_addD (a := (x2 - r10_135)) (b := r19_162)
                  have n11_ := rgI ((x2 - r10_135) + r19_162)
                  have n12_ := rgI a35_217
                  have n13_ := rgI (fX8_opAt S28_190 (qO S28_190 p0 4) x1)
                  have n14_ := rgI a39_218
                  have n15_ := rgI (fX6_goesOn S28_190 a35_217)
                  have n16_ := rgI (qI S28_190 p0 5)
                  have n17_ := rgI r27_190
                  have n19_ := li_1k
                  have n19_ := t_addD (a := x1) (b := (1 : Int32))
                  have n20_ := rgI (x1 + (1 : Int32))
                  have n21_ := rgI (qI S28_190 (qO S28_190 p0 4) 2)
                  have n22_ := rgI (qI S48_609 p0 7)
                  have n23_ := rgI (if (qI S28_190 p0 7) < (if a23_189 < (1 : Int32) then (1 : Int32) else a23_189) then (if a23_189 < (1 : Int32) then (1 : Int32) else a23_189) else (qI S28_190 p0 7))
                  have n24_ := rgI a54_689
                  have n25_ := rgI (fX8_targetCount S90_663 (qO S90_663 p0 4) x1)
                  omega
                · have s708_ := (g.hts y123_).2
                  have s709_ := y122_.len9 (y122_.ref (g.hts y123_).1.1 y123_) (by decide)
                  have s710_ := y122_.len9 (y122_.ref (g.hts y123_).1.2.1 y123_) (by decide)
                  have s711_ := y122_.len9 (y122_.ref (g.hts y123_).1.2.2 y123_) (by decide)
                  have s712_ := (g.unit (y122_.ref p686_ y123_)).2
                  have s713_ := (g.row (y122_.ref p687_ y123_)).2
                  have n1_ := li_0k
                  have n2_ := rgI x1
                  have n3_ := rgI a8_134
                  have n4_ := rgI (fX10_takes S (qO S p0 3) (qO S p0 4) x1)
                  have n5_ := rgI r10_135
                  have n6_ := rgI r19_162
                  have n7_ := rgI a23_189
                  have n10_ := rgI x2
                  have n10_ := t_subD (a := x2) (b := r10_135)
                  have n11_ := rgI (x2 - r10_135)
                  have n11_ := t_addD (a := (x2 - r10_135)) (b := r19_162)
                  have n12_ := rgI ((x2 - r10_135) + r19_162)
                  have n13_ := rgI a35_217
                  have n14_ := rgI (fX8_opAt S28_190 (qO S28_190 p0 4) x1)
                  have n15_ := rgI a39_218
                  have n16_ := rgI (fX6_goesOn S28_190 a35_217)
                  have n17_ := rgI (qI S28_190 p0 5)
                  have n18_ := rgI r27_190
                  have n20_ := li_1k
                  have n20_ := t_addD (a := x1) (b := (1 : Int32))
                  have n21_ := rgI (x1 + (1 : Int32))
                  have n22_ := rgI (qI S28_190 (qO S28_190 p0 4) 2)
                  have n23_ := rgI (qI S48_609 p0 7)
                  have n24_ := rgI (if (qI S28_190 p0 7) < (if a23_189 < (1 : Int32) then (1 : Int32) else a23_189) then (if a23_189 < (1 : Int32) then (1 : Int32) else a23_189) else (qI S28_190 p0 7))
                  have n25_ := rgI a54_689
                  have n26_ := rgI (fX8_targetCount S90_663 (qO S90_663 p0 4) x1)
                  omega
          · unfold w_X4_spread_J102
            intro y125_ y126_
            refine ⟨?_, ?_⟩
            · exact (g.hts y126_).1.2.2
            refine ⟨?_, ?_⟩
            · have s714_ := (g.hts y126_).2
              have s715_ := y125_.len9 (y125_.ref (g.hts y126_).1.1 y126_) (by decide)
              have s716_ := y125_.len9 (y125_.ref (g.hts y126_).1.2.1 y126_) (by decide)
              have s717_ := y125_.len9 (y125_.ref (g.hts y126_).1.2.2 y126_) (by decide)
              have s718_ := (g.unit (y125_.ref p214_ y126_)).2
              have s719_ := (g.row (y125_.ref p215_ y126_)).2
              have n1_ := rgI x1
              have n2_ := rgI a8_134
              have n3_ := rgI (fX10_takes S (qO S p0 3) (qO S p0 4) x1)
              have n4_ := rgI r10_135
              have n5_ := rgI r19_162
              have n6_ := rgI a23_189
              have n9_ := rgI x2
              have n9_ := t_subD (a := x2) (b := r10_135)
              have n10_ := rgI (x2 - r10_135)
              have n10_ := t_addD (a := (x2 - r10_135)) (b := r19_162)
              have n11_ := rgI ((x2 - r10_135) + r19_162)
              have n12_ := rgI a35_217
              have n13_ := rgI (fX8_opAt S28_190 (qO S28_190 p0 4) x1)
              have n14_ := rgI a39_218
              have n15_ := rgI (fX6_goesOn S28_190 a35_217)
              have n16_ := rgI (qI S28_190 p0 5)
              have n17_ := rgI r27_190
              have n19_ := li_1k
              have n19_ := t_addD (a := x1) (b := (1 : Int32))
              have n20_ := rgI (x1 + (1 : Int32))
              have n21_ := rgI (qI S28_190 (qO S28_190 p0 4) 2)
              omega
            intro S43_720 eS43_720 y127_ y128_
            have f721_ : cfr [304] [] S28_190 S43_720 := by rw [eS43_720]; exact cfr.aI y127_ (by decide)
            have t722_ : (qI S43_720 p0 7).toInt = (qI S28_190 p0 7).toInt := congrArg Int32.toInt (f721_.kI (j := 7) y126_ (by decide) (by decide))
            have t723_ : (qI S43_720 p0 6).toInt = (qI S28_190 p0 6).toInt := congrArg Int32.toInt (f721_.kI (j := 6) y126_ (by decide) (by decide))
            have t724_ : (qI S43_720 p0 5).toInt = (qI S28_190 p0 5).toInt := congrArg Int32.toInt (f721_.kI (j := 5) y126_ (by decide) (by decide))
            have t725_ : (qN S43_720 (qO S43_720 p0 1) : Int) = (qN S28_190 (qO S28_190 p0 1) : Int) := f721_.kL (j := 1) y125_ y126_ (g.hts y126_).1.2.1 (by decide) (by decide)
            have t726_ : (qN S43_720 (qO S43_720 p0 0) : Int) = (qN S28_190 (qO S28_190 p0 0) : Int) := f721_.kL (j := 0) y125_ y126_ (g.hts y126_).1.1 (by decide) (by decide)
            have t727_ : (qN S43_720 (qO S43_720 p0 2) : Int) = (qN S28_190 (qO S28_190 p0 2) : Int) := f721_.kL (j := 2) y125_ y126_ (g.hts y126_).1.2.2 (by decide) (by decide)
            have o728_ : qO S43_720 p0 3 = qO S28_190 p0 3 := qO_eq (f721_.kO y126_ (by decide) (by decide))
            have t729_ : (qI S43_720 (qO S43_720 p0 3) 8).toInt = (qI S28_190 (qO S28_190 p0 3) 8).toInt := by rw [o728_]; exact congrArg Int32.toInt (f721_.kI (j := 8) (y125_.ref p214_ y126_) (by decide) (by decide))
            have t730_ : (qI S43_720 (qO S43_720 p0 3) 4).toInt = (qI S28_190 (qO S28_190 p0 3) 4).toInt := by rw [o728_]; exact congrArg Int32.toInt (f721_.kI (j := 4) (y125_.ref p214_ y126_) (by decide) (by decide))
            have t731_ : (qN S43_720 (qO S43_720 (qO S43_720 p0 3) 13) : Int) = (qN S28_190 (qO S28_190 (qO S28_190 p0 3) 13) : Int) := by rw [o728_]; exact f721_.kL (j := 13) y125_ (y125_.ref p214_ y126_) (g.unit (y125_.ref p214_ y126_)).1.2.2.2.2.2.2.2.2 (by decide) (by decide)
            have t732_ : (qN S43_720 (qO S43_720 (qO S43_720 p0 3) 9) : Int) = (qN S28_190 (qO S28_190 (qO S28_190 p0 3) 9) : Int) := by rw [o728_]; exact f721_.kL (j := 9) y125_ (y125_.ref p214_ y126_) (g.unit (y125_.ref p214_ y126_)).1.2.2.2.2.1 (by decide) (by decide)
            have t733_ : (qN S43_720 (qO S43_720 (qO S43_720 p0 3) 5) : Int) = (qN S28_190 (qO S28_190 (qO S28_190 p0 3) 5) : Int) := by rw [o728_]; exact f721_.kL (j := 5) y125_ (y125_.ref p214_ y126_) (g.unit (y125_.ref p214_ y126_)).1.2.1 (by decide) (by decide)
            have o734_ : qO S43_720 p0 4 = qO S28_190 p0 4 := qO_eq (f721_.kO y126_ (by decide) (by decide))
            have t735_ : (qI S43_720 (qO S43_720 p0 4) 4).toInt = (qI S28_190 (qO S28_190 p0 4) 4).toInt := by rw [o734_]; exact congrArg Int32.toInt (f721_.kI (j := 4) (y125_.ref p215_ y126_) (by decide) (by decide))
            have t736_ : (qI S43_720 (qO S43_720 p0 4) 9).toInt = (qI S28_190 (qO S28_190 p0 4) 9).toInt := by rw [o734_]; exact congrArg Int32.toInt (f721_.kI (j := 9) (y125_.ref p215_ y126_) (by decide) (by decide))
            have t737_ : (qI S43_720 (qO S43_720 p0 4) 2).toInt = (qI S28_190 (qO S28_190 p0 4) 2).toInt := by rw [o734_]; exact congrArg Int32.toInt (f721_.kI (j := 2) (y125_.ref p215_ y126_) (by decide) (by decide))
            have t738_ : (qN S43_720 (qO S43_720 (qO S43_720 p0 4) 1) : Int) = (qN S28_190 (qO S28_190 (qO S28_190 p0 4) 1) : Int) := by rw [o734_]; exact f721_.kL (j := 1) y125_ (y125_.ref p215_ y126_) (g.row (y125_.ref p215_ y126_)).1.2.1 (by decide) (by decide)
            have t739_ : (qN S43_720 (qO S43_720 (qO S43_720 p0 4) 8) : Int) = (qN S28_190 (qO S28_190 (qO S28_190 p0 4) 8) : Int) := by rw [o734_]; exact f721_.kL (j := 8) y125_ (y125_.ref p215_ y126_) (g.row (y125_.ref p215_ y126_)).1.2.2.2.2.2.2 (by decide) (by decide)
            have t740_ : (qN S43_720 (qO S43_720 (qO S43_720 p0 4) 7) : Int) = (qN S28_190 (qO S28_190 (qO S28_190 p0 4) 7) : Int) := by rw [o734_]; exact f721_.kL (j := 7) y125_ (y125_.ref p215_ y126_) (g.row (y125_.ref p215_ y126_)).1.2.2.2.2.2.1 (by decide) (by decide)
            have t741_ : (qN S43_720 (qO S43_720 (qO S43_720 p0 4) 0) : Int) = (qN S28_190 (qO S28_190 (qO S28_190 p0 4) 0) : Int) := by rw [o734_]; exact f721_.kL (j := 0) y125_ (y125_.ref p215_ y126_) (g.row (y125_.ref p215_ y126_)).1.1 (by decide) (by decide)
            have t742_ : (qN S43_720 (qO S43_720 (qO S43_720 p0 4) 6) : Int) = (qN S28_190 (qO S28_190 (qO S28_190 p0 4) 6) : Int) := by rw [o734_]; exact f721_.kL (j := 6) y125_ (y125_.ref p215_ y126_) (g.row (y125_.ref p215_ y126_)).1.2.2.2.2.1 (by decide) (by decide)
            have t743_ : (qN S43_720 (qO S43_720 (qO S43_720 p0 4) 3) : Int) = (qN S28_190 (qO S28_190 (qO S28_190 p0 4) 3) : Int) := by rw [o734_]; exact f721_.kL (j := 3) y125_ (y125_.ref p215_ y126_) (g.row (y125_.ref p215_ y126_)).1.2.2.1 (by decide) (by decide)
            have t744_ : (qN S43_720 (qO S43_720 (qO S43_720 p0 4) 5) : Int) = (qN S28_190 (qO S28_190 (qO S28_190 p0 4) 5) : Int) := by rw [o734_]; exact f721_.kL (j := 5) y125_ (y125_.ref p215_ y126_) (g.row (y125_.ref p215_ y126_)).1.2.2.2.1 (by decide) (by decide)
            have p745_ : qR S43_720 p0 3 = some (qO S43_720 p0 3) := f721_.kP y126_ p214_ (by decide) (by decide)
            have p746_ : qR S43_720 p0 4 = some (qO S43_720 p0 4) := f721_.kP y126_ p215_ (by decide) (by decide)
            have k747_ : qT S43_720 p0 = 44 := f721_.1.T y126_ (by decide)
            have g : ShC B S43_720 := ShC.ws y125_ g f721_ (by rw [eS43_720]; rfl) (by rw [eS43_720]; rfl) (by rw [eS43_720]; rfl) rfl rfl
            exact ⟨g, trivial⟩
      · refine ⟨fun c748_ => ?_, fun c748_ => ?_⟩
        · unfold w_X4_spread_J102
          intro y129_ y130_
          refine ⟨?_, ?_⟩
          · exact (g.hts y130_).1.2.2
          refine ⟨?_, ?_⟩
          · have s749_ := (g.hts y130_).2
            have s750_ := y129_.len9 (y129_.ref (g.hts y130_).1.1 y130_) (by decide)
            have s751_ := y129_.len9 (y129_.ref (g.hts y130_).1.2.1 y130_) (by decide)
            have s752_ := y129_.len9 (y129_.ref (g.hts y130_).1.2.2 y130_) (by decide)
            have s753_ := (g.unit (y129_.ref p214_ y130_)).2
            have s754_ := (g.row (y129_.ref p215_ y130_)).2
            have n1_ := rgI x1
            have n2_ := rgI a8_134
            have n3_ := rgI (fX10_takes S (qO S p0 3) (qO S p0 4) x1)
            have n4_ := rgI r10_135
            have n5_ := rgI r19_162
            have n6_ := rgI a23_189
            have n9_ := rgI x2
            have n9_ := t_subD (a := x2) (b := r10_135)
            have n10_ := rgI (x2 - r10_135)
            have n10_ := t_addD (a := (x2 - r10_135)) (b := r19_162)
            have n11_ := rgI ((x2 - r10_135) + r19_162)
            have n12_ := rgI a35_217
            have n13_ := rgI (fX8_opAt S28_190 (qO S28_190 p0 4) x1)
            have n14_ := rgI a39_218
            have n15_ := rgI (fX6_goesOn S28_190 a35_217)
            have n16_ := rgI (qI S28_190 p0 5)
            have n17_ := rgI r27_190
            omega
          intro S43_755 eS43_755 y131_ y132_
          have f756_ : cfr [304] [] S28_190 S43_755 := by rw [eS43_755]; exact cfr.aI y131_ (by decide)
          have t757_ : (qI S43_755 p0 7).toInt = (qI S28_190 p0 7).toInt := congrArg Int32.toInt (f756_.kI (j := 7) y130_ (by decide) (by decide))
          have t758_ : (qI S43_755 p0 6).toInt = (qI S28_190 p0 6).toInt := congrArg Int32.toInt (f756_.kI (j := 6) y130_ (by decide) (by decide))
          have t759_ : (qI S43_755 p0 5).toInt = (qI S28_190 p0 5).toInt := congrArg Int32.toInt (f756_.kI (j := 5) y130_ (by decide) (by decide))
          have t760_ : (qN S43_755 (qO S43_755 p0 1) : Int) = (qN S28_190 (qO S28_190 p0 1) : Int) := f756_.kL (j := 1) y129_ y130_ (g.hts y130_).1.2.1 (by decide) (by decide)
          have t761_ : (qN S43_755 (qO S43_755 p0 0) : Int) = (qN S28_190 (qO S28_190 p0 0) : Int) := f756_.kL (j := 0) y129_ y130_ (g.hts y130_).1.1 (by decide) (by decide)
          have t762_ : (qN S43_755 (qO S43_755 p0 2) : Int) = (qN S28_190 (qO S28_190 p0 2) : Int) := f756_.kL (j := 2) y129_ y130_ (g.hts y130_).1.2.2 (by decide) (by decide)
          have o763_ : qO S43_755 p0 3 = qO S28_190 p0 3 := qO_eq (f756_.kO y130_ (by decide) (by decide))
          have t764_ : (qI S43_755 (qO S43_755 p0 3) 8).toInt = (qI S28_190 (qO S28_190 p0 3) 8).toInt := by rw [o763_]; exact congrArg Int32.toInt (f756_.kI (j := 8) (y129_.ref p214_ y130_) (by decide) (by decide))
          have t765_ : (qI S43_755 (qO S43_755 p0 3) 4).toInt = (qI S28_190 (qO S28_190 p0 3) 4).toInt := by rw [o763_]; exact congrArg Int32.toInt (f756_.kI (j := 4) (y129_.ref p214_ y130_) (by decide) (by decide))
          have t766_ : (qN S43_755 (qO S43_755 (qO S43_755 p0 3) 13) : Int) = (qN S28_190 (qO S28_190 (qO S28_190 p0 3) 13) : Int) := by rw [o763_]; exact f756_.kL (j := 13) y129_ (y129_.ref p214_ y130_) (g.unit (y129_.ref p214_ y130_)).1.2.2.2.2.2.2.2.2 (by decide) (by decide)
          have t767_ : (qN S43_755 (qO S43_755 (qO S43_755 p0 3) 9) : Int) = (qN S28_190 (qO S28_190 (qO S28_190 p0 3) 9) : Int) := by rw [o763_]; exact f756_.kL (j := 9) y129_ (y129_.ref p214_ y130_) (g.unit (y129_.ref p214_ y130_)).1.2.2.2.2.1 (by decide) (by decide)
          have t768_ : (qN S43_755 (qO S43_755 (qO S43_755 p0 3) 5) : Int) = (qN S28_190 (qO S28_190 (qO S28_190 p0 3) 5) : Int) := by rw [o763_]; exact f756_.kL (j := 5) y129_ (y129_.ref p214_ y130_) (g.unit (y129_.ref p214_ y130_)).1.2.1 (by decide) (by decide)
          have o769_ : qO S43_755 p0 4 = qO S28_190 p0 4 := qO_eq (f756_.kO y130_ (by decide) (by decide))
          have t770_ : (qI S43_755 (qO S43_755 p0 4) 4).toInt = (qI S28_190 (qO S28_190 p0 4) 4).toInt := by rw [o769_]; exact congrArg Int32.toInt (f756_.kI (j := 4) (y129_.ref p215_ y130_) (by decide) (by decide))
          have t771_ : (qI S43_755 (qO S43_755 p0 4) 9).toInt = (qI S28_190 (qO S28_190 p0 4) 9).toInt := by rw [o769_]; exact congrArg Int32.toInt (f756_.kI (j := 9) (y129_.ref p215_ y130_) (by decide) (by decide))
          have t772_ : (qI S43_755 (qO S43_755 p0 4) 2).toInt = (qI S28_190 (qO S28_190 p0 4) 2).toInt := by rw [o769_]; exact congrArg Int32.toInt (f756_.kI (j := 2) (y129_.ref p215_ y130_) (by decide) (by decide))
          have t773_ : (qN S43_755 (qO S43_755 (qO S43_755 p0 4) 1) : Int) = (qN S28_190 (qO S28_190 (qO S28_190 p0 4) 1) : Int) := by rw [o769_]; exact f756_.kL (j := 1) y129_ (y129_.ref p215_ y130_) (g.row (y129_.ref p215_ y130_)).1.2.1 (by decide) (by decide)
          have t774_ : (qN S43_755 (qO S43_755 (qO S43_755 p0 4) 8) : Int) = (qN S28_190 (qO S28_190 (qO S28_190 p0 4) 8) : Int) := by rw [o769_]; exact f756_.kL (j := 8) y129_ (y129_.ref p215_ y130_) (g.row (y129_.ref p215_ y130_)).1.2.2.2.2.2.2 (by decide) (by decide)
          have t775_ : (qN S43_755 (qO S43_755 (qO S43_755 p0 4) 7) : Int) = (qN S28_190 (qO S28_190 (qO S28_190 p0 4) 7) : Int) := by rw [o769_]; exact f756_.kL (j := 7) y129_ (y129_.ref p215_ y130_) (g.row (y129_.ref p215_ y130_)).1.2.2.2.2.2.1 (by decide) (by decide)
          have t776_ : (qN S43_755 (qO S43_755 (qO S43_755 p0 4) 0) : Int) = (qN S28_190 (qO S28_190 (qO S28_190 p0 4) 0) : Int) := by rw [o769_]; exact f756_.kL (j := 0) y129_ (y129_.ref p215_ y130_) (g.row (y129_.ref p215_ y130_)).1.1 (by decide) (by decide)
          have t777_ : (qN S43_755 (qO S43_755 (qO S43_755 p0 4) 6) : Int) = (qN S28_190 (qO S28_190 (qO S28_190 p0 4) 6) : Int) := by rw [o769_]; exact f756_.kL (j := 6) y129_ (y129_.ref p215_ y130_) (g.row (y129_.ref p215_ y130_)).1.2.2.2.2.1 (by decide) (by decide)
          have t778_ : (qN S43_755 (qO S43_755 (qO S43_755 p0 4) 3) : Int) = (qN S28_190 (qO S28_190 (qO S28_190 p0 4) 3) : Int) := by rw [o769_]; exact f756_.kL (j := 3) y129_ (y129_.ref p215_ y130_) (g.row (y129_.ref p215_ y130_)).1.2.2.1 (by decide) (by decide)
          have t779_ : (qN S43_755 (qO S43_755 (qO S43_755 p0 4) 5) : Int) = (qN S28_190 (qO S28_190 (qO S28_190 p0 4) 5) : Int) := by rw [o769_]; exact f756_.kL (j := 5) y129_ (y129_.ref p215_ y130_) (g.row (y129_.ref p215_ y130_)).1.2.2.2.1 (by decide) (by decide)
          have p780_ : qR S43_755 p0 3 = some (qO S43_755 p0 3) := f756_.kP y130_ p214_ (by decide) (by decide)
          have p781_ : qR S43_755 p0 4 = some (qO S43_755 p0 4) := f756_.kP y130_ p215_ (by decide) (by decide)
          have k782_ : qT S43_755 p0 = 44 := f756_.1.T y130_ (by decide)
          have g : ShC B S43_755 := ShC.ws y129_ g f756_ (by rw [eS43_755]; rfl) (by rw [eS43_755]; rfl) (by rw [eS43_755]; rfl) rfl rfl
          exact ⟨g, trivial⟩
        · unfold w_X4_spread_J84
          intro y133_ y134_ y135_ y136_
          refine ⟨fun c783_ => ?_, fun c783_ => ?_⟩
          · unfold w_X4_spread_J110
            intro y137_ y138_ y139_ y140_
            refine ⟨fun c784_ => ?_, fun c784_ => ?_⟩
            · unfold w_X4_spread_J127
              intro y141_ y142_ y143_ y144_ y145_ y146_
              intro S48_785 eS48_785 y147_ y148_
              have f786_ : cfr [] [(44, 7)] S28_190 S48_785 := by rw [eS48_785]; exact cfr.oI y147_ (by decide)
              have t787_ : (qI S48_785 p0 6).toInt = (qI S28_190 p0 6).toInt := congrArg Int32.toInt (f786_.kI (j := 6) y143_ (by decide) (by decide))
              have t788_ : (qI S48_785 p0 5).toInt = (qI S28_190 p0 5).toInt := congrArg Int32.toInt (f786_.kI (j := 5) y143_ (by decide) (by decide))
              have t789_ : (qN S48_785 (qO S48_785 p0 1) : Int) = (qN S28_190 (qO S28_190 p0 1) : Int) := f786_.kL (j := 1) y141_ y143_ (g.hts y143_).1.2.1 (by decide) (by decide)
              have t790_ : (qN S48_785 (qO S48_785 p0 0) : Int) = (qN S28_190 (qO S28_190 p0 0) : Int) := f786_.kL (j := 0) y141_ y143_ (g.hts y143_).1.1 (by decide) (by decide)
              have t791_ : (qN S48_785 (qO S48_785 p0 2) : Int) = (qN S28_190 (qO S28_190 p0 2) : Int) := f786_.kL (j := 2) y141_ y143_ (g.hts y143_).1.2.2 (by decide) (by decide)
              have o792_ : qO S48_785 p0 3 = qO S28_190 p0 3 := qO_eq (f786_.kO y143_ (by decide) (by decide))
              have t793_ : (qI S48_785 (qO S48_785 p0 3) 8).toInt = (qI S28_190 (qO S28_190 p0 3) 8).toInt := by rw [o792_]; exact congrArg Int32.toInt (f786_.kI (j := 8) (y141_.ref p214_ y143_) (by decide) (by decide))
              have t794_ : (qI S48_785 (qO S48_785 p0 3) 4).toInt = (qI S28_190 (qO S28_190 p0 3) 4).toInt := by rw [o792_]; exact congrArg Int32.toInt (f786_.kI (j := 4) (y141_.ref p214_ y143_) (by decide) (by decide))
              have t795_ : (qN S48_785 (qO S48_785 (qO S48_785 p0 3) 13) : Int) = (qN S28_190 (qO S28_190 (qO S28_190 p0 3) 13) : Int) := by rw [o792_]; exact f786_.kL (j := 13) y141_ (y141_.ref p214_ y143_) (g.unit (y141_.ref p214_ y143_)).1.2.2.2.2.2.2.2.2 (by decide) (by decide)
              have t796_ : (qN S48_785 (qO S48_785 (qO S48_785 p0 3) 9) : Int) = (qN S28_190 (qO S28_190 (qO S28_190 p0 3) 9) : Int) := by rw [o792_]; exact f786_.kL (j := 9) y141_ (y141_.ref p214_ y143_) (g.unit (y141_.ref p214_ y143_)).1.2.2.2.2.1 (by decide) (by decide)
              have t797_ : (qN S48_785 (qO S48_785 (qO S48_785 p0 3) 5) : Int) = (qN S28_190 (qO S28_190 (qO S28_190 p0 3) 5) : Int) := by rw [o792_]; exact f786_.kL (j := 5) y141_ (y141_.ref p214_ y143_) (g.unit (y141_.ref p214_ y143_)).1.2.1 (by decide) (by decide)
              have o798_ : qO S48_785 p0 4 = qO S28_190 p0 4 := qO_eq (f786_.kO y143_ (by decide) (by decide))
              have t799_ : (qI S48_785 (qO S48_785 p0 4) 4).toInt = (qI S28_190 (qO S28_190 p0 4) 4).toInt := by rw [o798_]; exact congrArg Int32.toInt (f786_.kI (j := 4) (y141_.ref p215_ y143_) (by decide) (by decide))
              have t800_ : (qI S48_785 (qO S48_785 p0 4) 9).toInt = (qI S28_190 (qO S28_190 p0 4) 9).toInt := by rw [o798_]; exact congrArg Int32.toInt (f786_.kI (j := 9) (y141_.ref p215_ y143_) (by decide) (by decide))
              have t801_ : (qI S48_785 (qO S48_785 p0 4) 2).toInt = (qI S28_190 (qO S28_190 p0 4) 2).toInt := by rw [o798_]; exact congrArg Int32.toInt (f786_.kI (j := 2) (y141_.ref p215_ y143_) (by decide) (by decide))
              have t802_ : (qN S48_785 (qO S48_785 (qO S48_785 p0 4) 1) : Int) = (qN S28_190 (qO S28_190 (qO S28_190 p0 4) 1) : Int) := by rw [o798_]; exact f786_.kL (j := 1) y141_ (y141_.ref p215_ y143_) (g.row (y141_.ref p215_ y143_)).1.2.1 (by decide) (by decide)
              have t803_ : (qN S48_785 (qO S48_785 (qO S48_785 p0 4) 8) : Int) = (qN S28_190 (qO S28_190 (qO S28_190 p0 4) 8) : Int) := by rw [o798_]; exact f786_.kL (j := 8) y141_ (y141_.ref p215_ y143_) (g.row (y141_.ref p215_ y143_)).1.2.2.2.2.2.2 (by decide) (by decide)
              have t804_ : (qN S48_785 (qO S48_785 (qO S48_785 p0 4) 7) : Int) = (qN S28_190 (qO S28_190 (qO S28_190 p0 4) 7) : Int) := by rw [o798_]; exact f786_.kL (j := 7) y141_ (y141_.ref p215_ y143_) (g.row (y141_.ref p215_ y143_)).1.2.2.2.2.2.1 (by decide) (by decide)
              have t805_ : (qN S48_785 (qO S48_785 (qO S48_785 p0 4) 0) : Int) = (qN S28_190 (qO S28_190 (qO S28_190 p0 4) 0) : Int) := by rw [o798_]; exact f786_.kL (j := 0) y141_ (y141_.ref p215_ y143_) (g.row (y141_.ref p215_ y143_)).1.1 (by decide) (by decide)
              have t806_ : (qN S48_785 (qO S48_785 (qO S48_785 p0 4) 6) : Int) = (qN S28_190 (qO S28_190 (qO S28_190 p0 4) 6) : Int) := by rw [o798_]; exact f786_.kL (j := 6) y141_ (y141_.ref p215_ y143_) (g.row (y141_.ref p215_ y143_)).1.2.2.2.2.1 (by decide) (by decide)
              have t807_ : (qN S48_785 (qO S48_785 (qO S48_785 p0 4) 3) : Int) = (qN S28_190 (qO S28_190 (qO S28_190 p0 4) 3) : Int) := by rw [o798_]; exact f786_.kL (j := 3) y141_ (y141_.ref p215_ y143_) (g.row (y141_.ref p215_ y143_)).1.2.2.1 (by decide) (by decide)
              have t808_ : (qN S48_785 (qO S48_785 (qO S48_785 p0 4) 5) : Int) = (qN S28_190 (qO S28_190 (qO S28_190 p0 4) 5) : Int) := by rw [o798_]; exact f786_.kL (j := 5) y141_ (y141_.ref p215_ y143_) (g.row (y141_.ref p215_ y143_)).1.2.2.2.1 (by decide) (by decide)
              have p809_ : qR S48_785 p0 3 = some (qO S48_785 p0 3) := f786_.kP y143_ p214_ (by decide) (by decide)
              have p810_ : qR S48_785 p0 4 = some (qO S48_785 p0 4) := f786_.kP y143_ p215_ (by decide) (by decide)
              have k811_ : qT S48_785 p0 = 44 := f786_.1.T y143_ (by decide)
              have t812_ : (qI S48_785 p0 7).toInt = (if (qI S28_190 p0 7) < (if a23_189 < (0 : Int32) then (0 : Int32) else a23_189) then (if a23_189 < (0 : Int32) then (0 : Int32) else a23_189) else (qI S28_190 p0 7)).toInt := by rw [eS48_785, qI_wI, if_pos ⟨rfl, rfl⟩]
              have g : ShC B S48_785 := ShC.ws y141_ g f786_ (by rw [eS48_785]; rfl) (by rw [eS48_785]; rfl) (by rw [eS48_785]; rfl) rfl rfl
              refine ⟨fun c813_ => ?_, fun c813_ => ?_⟩
              · unfold w_X4_spread_J150
                intro y149_ y150_ y151_
                refine ⟨?_, ?_⟩
                · exact p810_
                refine ⟨?_, ?_⟩
                · exact (dd_X8_targetCount y149_ g (y149_.ref p810_ y150_))
                intro a54_814 ea54_814 
                have ga54_814 := congrArg Int32.toInt ea54_814
                refine ⟨(2147483648 - (0 : Int32).toInt).toNat + 1, ?_⟩
                refine sg_X4_spread_L163  _ g p809_ p810_ ?_ ?_ ?_ ?_
                · have s815_ := (g.hts y150_).2
                  have s816_ := y149_.len9 (y149_.ref (g.hts y150_).1.1 y150_) (by decide)
                  have s817_ := y149_.len9 (y149_.ref (g.hts y150_).1.2.1 y150_) (by decide)
                  have s818_ := y149_.len9 (y149_.ref (g.hts y150_).1.2.2 y150_) (by decide)
                  have s819_ := (g.unit (y149_.ref p809_ y150_)).2
                  have s820_ := (g.row (y149_.ref p810_ y150_)).2
                  have n1_ := li_0k
                  have n2_ := rgI x1
                  have n3_ := rgI a8_134
                  have n4_ := rgI (fX10_takes S (qO S p0 3) (qO S p0 4) x1)
                  have n5_ := rgI r10_135
                  have n6_ := rgI r19_162
                  have n7_ := rgI a23_189
                  have n10_ := rgI x2
                  have n10_ := t_subD (a := x2) (b := r10_135)
                  have n11_ := rgI (x2 - r10_135)
                  have n11_ := t_addD (a := (x2 - r10_135)) (b := r19_162)
                  have n12_ := rgI ((x2 - r10_135) + r19_162)
                  have n13_ := rgI a35_217
                  have n14_ := rgI (fX8_opAt S28_190 (qO S28_190 p0 4) x1)
                  have n15_ := rgI a39_218
                  have n16_ := rgI (fX6_goesOn S28_190 a35_217)
                  have n17_ := rgI (qI S28_190 p0 5)
                  have n18_ := rgI r27_190
                  have n19_ := rgI (qI S48_785 p0 7)
                  have n20_ := rgI (if (qI S28_190 p0 7) < (if a23_189 < (0 : Int32) then (0 : Int32) else a23_189) then (if a23_189 < (0 : Int32) then (0 : Int32) else a23_189) else (qI S28_190 p0 7))
                  have n21_ := rgI a54_814
                  have n22_ := rgI (fX8_targetCount S48_785 (qO S48_785 p0 4) x1)
                  omega
                · have s821_ := (g.hts y150_).2
                  have s822_ := y149_.len9 (y149_.ref (g.hts y150_).1.1 y150_) (by decide)
                  have s823_ := y149_.len9 (y149_.ref (g.hts y150_).1.2.1 y150_) (by decide)
                  have s824_ := y149_.len9 (y149_.ref (g.hts y150_).1.2.2 y150_) (by decide)
                  have s825_ := (g.unit (y149_.ref p809_ y150_)).2
                  have s826_ := (g.row (y149_.ref p810_ y150_)).2
                  have n1_ := rgI x1
                  have n2_ := rgI a8_134
                  have n3_ := rgI (fX10_takes S (qO S p0 3) (qO S p0 4) x1)
                  have n4_ := rgI r10_135
                  have n5_ := rgI r19_162
                  have n6_ := rgI a23_189
                  have n9_ := rgI x2
                  have n9_ := t_subD (a := x2) (b := r10_135)
                  have n10_ := rgI (x2 - r10_135)
                  have n10_ := t_addD (a := (x2 - r10_135)) (b := r19_162)
                  have n11_ := rgI ((x2 - r10_135) + r19_162)
                  have n12_ := rgI a35_217
                  have n13_ := rgI (fX8_opAt S28_190 (qO S28_190 p0 4) x1)
                  have n14_ := rgI a39_218
                  have n15_ := rgI (fX6_goesOn S28_190 a35_217)
                  have n16_ := rgI (qI S28_190 p0 5)
                  have n17_ := rgI r27_190
                  have n18_ := rgI (qI S48_785 p0 7)
                  have n19_ := rgI (if (qI S28_190 p0 7) < (if a23_189 < (0 : Int32) then (0 : Int32) else a23_189) then (if a23_189 < (0 : Int32) then (0 : Int32) else a23_189) else (qI S28_190 p0 7))
                  have n20_ := rgI a54_814
                  have n21_ := rgI (fX8_targetCount S48_785 (qO S48_785 p0 4) x1)
                  omega
                · have s827_ := (g.hts y150_).2
                  have s828_ := y149_.len9 (y149_.ref (g.hts y150_).1.1 y150_) (by decide)
                  have s829_ := y149_.len9 (y149_.ref (g.hts y150_).1.2.1 y150_) (by decide)
                  have s830_ := y149_.len9 (y149_.ref (g.hts y150_).1.2.2 y150_) (by decide)
                  have s831_ := (g.unit (y149_.ref p809_ y150_)).2
                  have s832_ := (g.row (y149_.ref p810_ y150_)).2
                  have n1_ := rgI x1
                  have n2_ := rgI a8_134
                  have n3_ := rgI (fX10_takes S (qO S p0 3) (qO S p0 4) x1)
                  have n4_ := rgI r10_135
                  have n5_ := rgI r19_162
                  have n6_ := rgI a23_189
                  have n9_ := rgI x2
                  have n9_ := t_subD (a := x2) (b := r10_135)
                  have n10_ := rgI (x2 - r10_135)
                  have n10_ := t_addD (a := (x2 - r10_135)) (b := r19_162)
                  have n11_ := rgI ((x2 - r10_135) + r19_162)
                  have n12_ := rgI a35_217
                  have n13_ := rgI (fX8_opAt S28_190 (qO S28_190 p0 4) x1)
                  have n14_ := rgI a39_218
                  have n15_ := rgI (fX6_goesOn S28_190 a35_217)
                  have n16_ := rgI (qI S28_190 p0 5)
                  have n17_ := rgI r27_190
                  have n18_ := rgI (qI S48_785 p0 7)
                  have n19_ := rgI (if (qI S28_190 p0 7) < (if a23_189 < (0 : Int32) then (0 : Int32) else a23_189) then (if a23_189 < (0 : Int32) then (0 : Int32) else a23_189) else (qI S28_190 p0 7))
                  have n20_ := rgI a54_814
                  have n21_ := rgI (fX8_targetCount S48_785 (qO S48_785 p0 4) x1)
                  omega
                · have s833_ := (g.hts y150_).2
                  have s834_ := y149_.len9 (y149_.ref (g.hts y150_).1.1 y150_) (by decide)
                  have s835_ := y149_.len9 (y149_.ref (g.hts y150_).1.2.1 y150_) (by decide)
                  have s836_ := y149_.len9 (y149_.ref (g.hts y150_).1.2.2 y150_) (by decide)
                  have s837_ := (g.unit (y149_.ref p809_ y150_)).2
                  have s838_ := (g.row (y149_.ref p810_ y150_)).2
                  have n1_ := li_0k
                  have n2_ := rgI x1
                  have n3_ := rgI a8_134
                  have n4_ := rgI (fX10_takes S (qO S p0 3) (qO S p0 4) x1)
                  have n5_ := rgI r10_135
                  have n6_ := rgI r19_162
                  have n7_ := rgI a23_189
                  have n10_ := rgI x2
                  have n10_ := t_subD (a := x2) (b := r10_135)
                  have n11_ := rgI (x2 - r10_135)
                  have n11_ := t_addD (a := (x2 - r10_135)) (b := r19_162)
                  have n12_ := rgI ((x2 - r10_135) + r19_162)
                  have n13_ := rgI a35_217
                  have n14_ := rgI (fX8_opAt S28_190 (qO S28_190 p0 4) x1)
                  have n15_ := rgI a39_218
                  have n16_ := rgI (fX6_goesOn S28_190 a35_217)
                  have n17_ := rgI (qI S28_190 p0 5)
                  have n18_ := rgI r27_190
                  have n19_ := rgI (qI S48_785 p0 7)
                  have n20_ := rgI (if (qI S28_190 p0 7) < (if a23_189 < (0 : Int32) then (0 : Int32) else a23_189) then (if a23_189 < (0 : Int32) then (0 : Int32) else a23_189) else (qI S28_190 p0 7))
                  have n21_ := rgI a54_814
                  have n22_ := rgI (fX8_targetCount S48_785 (qO S48_785 p0 4) x1)
                  omega
              · intro y152_
                refine ⟨_, frX4_comeTo y148_ (sgX4_comeTo y148_ g y152_ p810_), ?_⟩
                intro S90_839 q153_ y154_ y155_
                have t840_ : (qI S90_839 p0 7).toInt = (qI S48_785 p0 7).toInt := congrArg Int32.toInt (q153_.2.kI (j := 7) y152_ (by decide) (by decide))
                have t841_ : (qI S90_839 p0 5).toInt = (qI S48_785 p0 5).toInt := congrArg Int32.toInt (q153_.2.kI (j := 5) y152_ (by decide) (by decide))
                have t842_ : (qN S90_839 (qO S90_839 p0 1) : Int) = (qN S48_785 (qO S48_785 p0 1) : Int) := q153_.2.kL (j := 1) y148_ y152_ (g.hts y152_).1.2.1 (by decide) (by decide)
                have t843_ : (qN S90_839 (qO S90_839 p0 0) : Int) = (qN S48_785 (qO S48_785 p0 0) : Int) := q153_.2.kL (j := 0) y148_ y152_ (g.hts y152_).1.1 (by decide) (by decide)
                have t844_ : (qN S90_839 (qO S90_839 p0 2) : Int) = (qN S48_785 (qO S48_785 p0 2) : Int) := q153_.2.kL (j := 2) y148_ y152_ (g.hts y152_).1.2.2 (by decide) (by decide)
                have o845_ : qO S90_839 p0 3 = qO S48_785 p0 3 := qO_eq (q153_.2.kO y152_ (by decide) (by decide))
                have t846_ : (qI S90_839 (qO S90_839 p0 3) 8).toInt = (qI S48_785 (qO S48_785 p0 3) 8).toInt := by rw [o845_]; exact congrArg Int32.toInt (q153_.2.kI (j := 8) (y148_.ref p809_ y152_) (by decide) (by decide))
                have t847_ : (qI S90_839 (qO S90_839 p0 3) 4).toInt = (qI S48_785 (qO S48_785 p0 3) 4).toInt := by rw [o845_]; exact congrArg Int32.toInt (q153_.2.kI (j := 4) (y148_.ref p809_ y152_) (by decide) (by decide))
                have t848_ : (qN S90_839 (qO S90_839 (qO S90_839 p0 3) 13) : Int) = (qN S48_785 (qO S48_785 (qO S48_785 p0 3) 13) : Int) := by rw [o845_]; exact q153_.2.kL (j := 13) y148_ (y148_.ref p809_ y152_) (g.unit (y148_.ref p809_ y152_)).1.2.2.2.2.2.2.2.2 (by decide) (by decide)
                have t849_ : (qN S90_839 (qO S90_839 (qO S90_839 p0 3) 9) : Int) = (qN S48_785 (qO S48_785 (qO S48_785 p0 3) 9) : Int) := by rw [o845_]; exact q153_.2.kL (j := 9) y148_ (y148_.ref p809_ y152_) (g.unit (y148_.ref p809_ y152_)).1.2.2.2.2.1 (by decide) (by decide)
                have t850_ : (qN S90_839 (qO S90_839 (qO S90_839 p0 3) 5) : Int) = (qN S48_785 (qO S48_785 (qO S48_785 p0 3) 5) : Int) := by rw [o845_]; exact q153_.2.kL (j := 5) y148_ (y148_.ref p809_ y152_) (g.unit (y148_.ref p809_ y152_)).1.2.1 (by decide) (by decide)
                have o851_ : qO S90_839 p0 4 = qO S48_785 p0 4 := qO_eq (q153_.2.kO y152_ (by decide) (by decide))
                have t852_ : (qI S90_839 (qO S90_839 p0 4) 4).toInt = (qI S48_785 (qO S48_785 p0 4) 4).toInt := by rw [o851_]; exact congrArg Int32.toInt (q153_.2.kI (j := 4) (y148_.ref p810_ y152_) (by decide) (by decide))
                have t853_ : (qI S90_839 (qO S90_839 p0 4) 9).toInt = (qI S48_785 (qO S48_785 p0 4) 9).toInt := by rw [o851_]; exact congrArg Int32.toInt (q153_.2.kI (j := 9) (y148_.ref p810_ y152_) (by decide) (by decide))
                have t854_ : (qI S90_839 (qO S90_839 p0 4) 2).toInt = (qI S48_785 (qO S48_785 p0 4) 2).toInt := by rw [o851_]; exact congrArg Int32.toInt (q153_.2.kI (j := 2) (y148_.ref p810_ y152_) (by decide) (by decide))
                have t855_ : (qN S90_839 (qO S90_839 (qO S90_839 p0 4) 1) : Int) = (qN S48_785 (qO S48_785 (qO S48_785 p0 4) 1) : Int) := by rw [o851_]; exact q153_.2.kL (j := 1) y148_ (y148_.ref p810_ y152_) (g.row (y148_.ref p810_ y152_)).1.2.1 (by decide) (by decide)
                have t856_ : (qN S90_839 (qO S90_839 (qO S90_839 p0 4) 8) : Int) = (qN S48_785 (qO S48_785 (qO S48_785 p0 4) 8) : Int) := by rw [o851_]; exact q153_.2.kL (j := 8) y148_ (y148_.ref p810_ y152_) (g.row (y148_.ref p810_ y152_)).1.2.2.2.2.2.2 (by decide) (by decide)
                have t857_ : (qN S90_839 (qO S90_839 (qO S90_839 p0 4) 7) : Int) = (qN S48_785 (qO S48_785 (qO S48_785 p0 4) 7) : Int) := by rw [o851_]; exact q153_.2.kL (j := 7) y148_ (y148_.ref p810_ y152_) (g.row (y148_.ref p810_ y152_)).1.2.2.2.2.2.1 (by decide) (by decide)
                have t858_ : (qN S90_839 (qO S90_839 (qO S90_839 p0 4) 0) : Int) = (qN S48_785 (qO S48_785 (qO S48_785 p0 4) 0) : Int) := by rw [o851_]; exact q153_.2.kL (j := 0) y148_ (y148_.ref p810_ y152_) (g.row (y148_.ref p810_ y152_)).1.1 (by decide) (by decide)
                have t859_ : (qN S90_839 (qO S90_839 (qO S90_839 p0 4) 6) : Int) = (qN S48_785 (qO S48_785 (qO S48_785 p0 4) 6) : Int) := by rw [o851_]; exact q153_.2.kL (j := 6) y148_ (y148_.ref p810_ y152_) (g.row (y148_.ref p810_ y152_)).1.2.2.2.2.1 (by decide) (by decide)
                have t860_ : (qN S90_839 (qO S90_839 (qO S90_839 p0 4) 3) : Int) = (qN S48_785 (qO S48_785 (qO S48_785 p0 4) 3) : Int) := by rw [o851_]; exact q153_.2.kL (j := 3) y148_ (y148_.ref p810_ y152_) (g.row (y148_.ref p810_ y152_)).1.2.2.1 (by decide) (by decide)
                have t861_ : (qN S90_839 (qO S90_839 (qO S90_839 p0 4) 5) : Int) = (qN S48_785 (qO S48_785 (qO S48_785 p0 4) 5) : Int) := by rw [o851_]; exact q153_.2.kL (j := 5) y148_ (y148_.ref p810_ y152_) (g.row (y148_.ref p810_ y152_)).1.2.2.2.1 (by decide) (by decide)
                have p862_ : qR S90_839 p0 3 = some (qO S90_839 p0 3) := q153_.2.kP y152_ p809_ (by decide) (by decide)
                have p863_ : qR S90_839 p0 4 = some (qO S90_839 p0 4) := q153_.2.kP y152_ p810_ (by decide) (by decide)
                have k864_ : qT S90_839 p0 = 44 := q153_.2.1.T y152_ (by decide)
                have g : ShC B S90_839 := q153_.1.1
                unfold w_X4_spread_J150
                intro y156_ y157_ y158_
                refine ⟨?_, ?_⟩
                · exact p863_
                refine ⟨?_, ?_⟩
                · exact (dd_X8_targetCount y156_ g (y156_.ref p863_ y157_))
                intro a54_865 ea54_865 
                have ga54_865 := congrArg Int32.toInt ea54_865
                refine ⟨(2147483648 - (0 : Int32).toInt).toNat + 1, ?_⟩
                refine sg_X4_spread_L163  _ g p862_ p863_ ?_ ?_ ?_ ?_
                · have s866_ := (g.hts y157_).2
                  have s867_ := y156_.len9 (y156_.ref (g.hts y157_).1.1 y157_) (by decide)
                  have s868_ := y156_.len9 (y156_.ref (g.hts y157_).1.2.1 y157_) (by decide)
                  have s869_ := y156_.len9 (y156_.ref (g.hts y157_).1.2.2 y157_) (by decide)
                  have s870_ := (g.unit (y156_.ref p862_ y157_)).2
                  have s871_ := (g.row (y156_.ref p863_ y157_)).2
                  have n1_ := li_0k
                  have n2_ := rgI x1
                  have n3_ := rgI a8_134
                  have n4_ := rgI (fX10_takes S (qO S p0 3) (qO S p0 4) x1)
                  have n5_ := rgI r10_135
                  have n6_ := rgI r19_162
                  have n7_ := rgI a23_189
                  have n10_ := rgI x2
                  have n10_ := t_subD (a := x2) (b := r10_135)
                  have n11_ := rgI (x2 - r10_135)
                  have n11_ := t_addD (a := (x2 - r10_135)) (b := r19_162)
                  have n12_ := rgI ((x2 - r10_135) + r19_162)
                  have n13_ := rgI a35_217
                  have n14_ := rgI (fX8_opAt S28_190 (qO S28_190 p0 4) x1)
                  have n15_ := rgI a39_218
                  have n16_ := rgI (fX6_goesOn S28_190 a35_217)
                  have n17_ := rgI (qI S28_190 p0 5)
                  have n18_ := rgI r27_190
                  have n19_ := rgI (qI S48_785 p0 7)
                  have n20_ := rgI (if (qI S28_190 p0 7) < (if a23_189 < (0 : Int32) then (0 : Int32) else a23_189) then (if a23_189 < (0 : Int32) then (0 : Int32) else a23_189) else (qI S28_190 p0 7))
                  have n21_ := rgI a54_865
                  have n22_ := rgI (fX8_targetCount S90_839 (qO S90_839 p0 4) x1)
                  omega
                · have s872_ := (g.hts y157_).2
                  have s873_ := y156_.len9 (y156_.ref (g.hts y157_).1.1 y157_) (by decide)
                  have s874_ := y156_.len9 (y156_.ref (g.hts y157_).1.2.1 y157_) (by decide)
                  have s875_ := y156_.len9 (y156_.ref (g.hts y157_).1.2.2 y157_) (by decide)
                  have s876_ := (g.unit (y156_.ref p862_ y157_)).2
                  have s877_ := (g.row (y156_.ref p863_ y157_)).2
                  have n1_ := rgI x1
                  have n2_ := rgI a8_134
                  have n3_ := rgI (fX10_takes S (qO S p0 3) (qO S p0 4) x1)
                  have n4_ := rgI r10_135
                  have n5_ := rgI r19_162
                  have n6_ := rgI a23_189
                  have n9_ := rgI x2
                  have n9_ := t_subD (a := x2) (b := r10_135)
                  have n10_ := rgI (x2 - r10_135)
                  have n10_ := t_addD (a := (x2 - r10_135)) (b := r19_162)
                  have n11_ := rgI ((x2 - r10_135) + r19_162)
                  have n12_ := rgI a35_217
                  have n13_ := rgI (fX8_opAt S28_190 (qO S28_190 p0 4) x1)
                  have n14_ := rgI a39_218
                  have n15_ := rgI (fX6_goesOn S28_190 a35_217)
                  have n16_ := rgI (qI S28_190 p0 5)
                  have n17_ := rgI r27_190
                  have n18_ := rgI (qI S48_785 p0 7)
                  have n19_ := rgI (if (qI S28_190 p0 7) < (if a23_189 < (0 : Int32) then (0 : Int32) else a23_189) then (if a23_189 < (0 : Int32) then (0 : Int32) else a23_189) else (qI S28_190 p0 7))
                  have n20_ := rgI a54_865
                  have n21_ := rgI (fX8_targetCount S90_839 (qO S90_839 p0 4) x1)
                  omega
                · have s878_ := (g.hts y157_).2
                  have s879_ := y156_.len9 (y156_.ref (g.hts y157_).1.1 y157_) (by decide)
                  have s880_ := y156_.len9 (y156_.ref (g.hts y157_).1.2.1 y157_) (by decide)
                  have s881_ := y156_.len9 (y156_.ref (g.hts y157_).1.2.2 y157_) (by decide)
                  have s882_ := (g.unit (y156_.ref p862_ y157_)).2
                  have s883_ := (g.row (y156_.ref p863_ y157_)).2
                  have n1_ := rgI x1
                  have n2_ := rgI a8_134
                  have n3_ := rgI (fX10_takes S (qO S p0 3) (qO S p0 4) x1)
                  have n4_ := rgI r10_135
                  have n5_ := rgI r19_162
                  have n6_ := rgI a23_189
                  have n9_ := rgI x2
                  have n9_ := t_subD (a := x2) (b := r10_135)
                  have n10_ := rgI (x2 - r10_135)
                  have n10_ := t_addD (a := (x2 - r10_135)) (b := r19_162)
                  have n11_ := rgI ((x2 - r10_135) + r19_162)
                  have n12_ := rgI a35_217
                  have n13_ := rgI (fX8_opAt S28_190 (qO S28_190 p0 4) x1)
                  have n14_ := rgI a39_218
                  have n15_ := rgI (fX6_goesOn S28_190 a35_217)
                  have n16_ := rgI (qI S28_190 p0 5)
                  have n17_ := rgI r27_190
                  have n18_ := rgI (qI S48_785 p0 7)
                  have n19_ := rgI (if (qI S28_190 p0 7) < (if a23_189 < (0 : Int32) then (0 : Int32) else a23_189) then (if a23_189 < (0 : Int32) then (0 : Int32) else a23_189) else (qI S28_190 p0 7))
                  have n20_ := rgI a54_865
                  have n21_ := rgI (fX8_targetCount S90_839 (qO S90_839 p0 4) x1)
                  omega
                · have s884_ := (g.hts y157_).2
                  have s885_ := y156_.len9 (y156_.ref (g.hts y157_).1.1 y157_) (by decide)
                  have s886_ := y156_.len9 (y156_.ref (g.hts y157_).1.2.1 y157_) (by decide)
                  have s887_ := y156_.len9 (y156_.ref (g.hts y157_).1.2.2 y157_) (by decide)
                  have s888_ := (g.unit (y156_.ref p862_ y157_)).2
                  have s889_ := (g.row (y156_.ref p863_ y157_)).2
                  have n1_ := li_0k
                  have n2_ := rgI x1
                  have n3_ := rgI a8_134
                  have n4_ := rgI (fX10_takes S (qO S p0 3) (qO S p0 4) x1)
                  have n5_ := rgI r10_135
                  have n6_ := rgI r19_162
                  have n7_ := rgI a23_189
                  have n10_ := rgI x2
                  have n10_ := t_subD (a := x2) (b := r10_135)
                  have n11_ := rgI (x2 - r10_135)
                  have n11_ := t_addD (a := (x2 - r10_135)) (b := r19_162)
                  have n12_ := rgI ((x2 - r10_135) + r19_162)
                  have n13_ := rgI a35_217
                  have n14_ := rgI (fX8_opAt S28_190 (qO S28_190 p0 4) x1)
                  have n15_ := rgI a39_218
                  have n16_ := rgI (fX6_goesOn S28_190 a35_217)
                  have n17_ := rgI (qI S28_190 p0 5)
                  have n18_ := rgI r27_190
                  have n19_ := rgI (qI S48_785 p0 7)
                  have n20_ := rgI (if (qI S28_190 p0 7) < (if a23_189 < (0 : Int32) then (0 : Int32) else a23_189) then (if a23_189 < (0 : Int32) then (0 : Int32) else a23_189) else (qI S28_190 p0 7))
                  have n21_ := rgI a54_865
                  have n22_ := rgI (fX8_targetCount S90_839 (qO S90_839 p0 4) x1)
                  omega
            · unfold w_X4_spread_J127
              intro y159_ y160_ y161_ y162_ y163_ y164_
              intro S48_890 eS48_890 y165_ y166_
              have f891_ : cfr [] [(44, 7)] S28_190 S48_890 := by rw [eS48_890]; exact cfr.oI y165_ (by decide)
              have t892_ : (qI S48_890 p0 6).toInt = (qI S28_190 p0 6).toInt := congrArg Int32.toInt (f891_.kI (j := 6) y161_ (by decide) (by decide))
              have t893_ : (qI S48_890 p0 5).toInt = (qI S28_190 p0 5).toInt := congrArg Int32.toInt (f891_.kI (j := 5) y161_ (by decide) (by decide))
              have t894_ : (qN S48_890 (qO S48_890 p0 1) : Int) = (qN S28_190 (qO S28_190 p0 1) : Int) := f891_.kL (j := 1) y159_ y161_ (g.hts y161_).1.2.1 (by decide) (by decide)
              have t895_ : (qN S48_890 (qO S48_890 p0 0) : Int) = (qN S28_190 (qO S28_190 p0 0) : Int) := f891_.kL (j := 0) y159_ y161_ (g.hts y161_).1.1 (by decide) (by decide)
              have t896_ : (qN S48_890 (qO S48_890 p0 2) : Int) = (qN S28_190 (qO S28_190 p0 2) : Int) := f891_.kL (j := 2) y159_ y161_ (g.hts y161_).1.2.2 (by decide) (by decide)
              have o897_ : qO S48_890 p0 3 = qO S28_190 p0 3 := qO_eq (f891_.kO y161_ (by decide) (by decide))
              have t898_ : (qI S48_890 (qO S48_890 p0 3) 8).toInt = (qI S28_190 (qO S28_190 p0 3) 8).toInt := by rw [o897_]; exact congrArg Int32.toInt (f891_.kI (j := 8) (y159_.ref p214_ y161_) (by decide) (by decide))
              have t899_ : (qI S48_890 (qO S48_890 p0 3) 4).toInt = (qI S28_190 (qO S28_190 p0 3) 4).toInt := by rw [o897_]; exact congrArg Int32.toInt (f891_.kI (j := 4) (y159_.ref p214_ y161_) (by decide) (by decide))
              have t900_ : (qN S48_890 (qO S48_890 (qO S48_890 p0 3) 13) : Int) = (qN S28_190 (qO S28_190 (qO S28_190 p0 3) 13) : Int) := by rw [o897_]; exact f891_.kL (j := 13) y159_ (y159_.ref p214_ y161_) (g.unit (y159_.ref p214_ y161_)).1.2.2.2.2.2.2.2.2 (by decide) (by decide)
              have t901_ : (qN S48_890 (qO S48_890 (qO S48_890 p0 3) 9) : Int) = (qN S28_190 (qO S28_190 (qO S28_190 p0 3) 9) : Int) := by rw [o897_]; exact f891_.kL (j := 9) y159_ (y159_.ref p214_ y161_) (g.unit (y159_.ref p214_ y161_)).1.2.2.2.2.1 (by decide) (by decide)
              have t902_ : (qN S48_890 (qO S48_890 (qO S48_890 p0 3) 5) : Int) = (qN S28_190 (qO S28_190 (qO S28_190 p0 3) 5) : Int) := by rw [o897_]; exact f891_.kL (j := 5) y159_ (y159_.ref p214_ y161_) (g.unit (y159_.ref p214_ y161_)).1.2.1 (by decide) (by decide)
              have o903_ : qO S48_890 p0 4 = qO S28_190 p0 4 := qO_eq (f891_.kO y161_ (by decide) (by decide))
              have t904_ : (qI S48_890 (qO S48_890 p0 4) 4).toInt = (qI S28_190 (qO S28_190 p0 4) 4).toInt := by rw [o903_]; exact congrArg Int32.toInt (f891_.kI (j := 4) (y159_.ref p215_ y161_) (by decide) (by decide))
              have t905_ : (qI S48_890 (qO S48_890 p0 4) 9).toInt = (qI S28_190 (qO S28_190 p0 4) 9).toInt := by rw [o903_]; exact congrArg Int32.toInt (f891_.kI (j := 9) (y159_.ref p215_ y161_) (by decide) (by decide))
              have t906_ : (qI S48_890 (qO S48_890 p0 4) 2).toInt = (qI S28_190 (qO S28_190 p0 4) 2).toInt := by rw [o903_]; exact congrArg Int32.toInt (f891_.kI (j := 2) (y159_.ref p215_ y161_) (by decide) (by decide))
              have t907_ : (qN S48_890 (qO S48_890 (qO S48_890 p0 4) 1) : Int) = (qN S28_190 (qO S28_190 (qO S28_190 p0 4) 1) : Int) := by rw [o903_]; exact f891_.kL (j := 1) y159_ (y159_.ref p215_ y161_) (g.row (y159_.ref p215_ y161_)).1.2.1 (by decide) (by decide)
              have t908_ : (qN S48_890 (qO S48_890 (qO S48_890 p0 4) 8) : Int) = (qN S28_190 (qO S28_190 (qO S28_190 p0 4) 8) : Int) := by rw [o903_]; exact f891_.kL (j := 8) y159_ (y159_.ref p215_ y161_) (g.row (y159_.ref p215_ y161_)).1.2.2.2.2.2.2 (by decide) (by decide)
              have t909_ : (qN S48_890 (qO S48_890 (qO S48_890 p0 4) 7) : Int) = (qN S28_190 (qO S28_190 (qO S28_190 p0 4) 7) : Int) := by rw [o903_]; exact f891_.kL (j := 7) y159_ (y159_.ref p215_ y161_) (g.row (y159_.ref p215_ y161_)).1.2.2.2.2.2.1 (by decide) (by decide)
              have t910_ : (qN S48_890 (qO S48_890 (qO S48_890 p0 4) 0) : Int) = (qN S28_190 (qO S28_190 (qO S28_190 p0 4) 0) : Int) := by rw [o903_]; exact f891_.kL (j := 0) y159_ (y159_.ref p215_ y161_) (g.row (y159_.ref p215_ y161_)).1.1 (by decide) (by decide)
              have t911_ : (qN S48_890 (qO S48_890 (qO S48_890 p0 4) 6) : Int) = (qN S28_190 (qO S28_190 (qO S28_190 p0 4) 6) : Int) := by rw [o903_]; exact f891_.kL (j := 6) y159_ (y159_.ref p215_ y161_) (g.row (y159_.ref p215_ y161_)).1.2.2.2.2.1 (by decide) (by decide)
              have t912_ : (qN S48_890 (qO S48_890 (qO S48_890 p0 4) 3) : Int) = (qN S28_190 (qO S28_190 (qO S28_190 p0 4) 3) : Int) := by rw [o903_]; exact f891_.kL (j := 3) y159_ (y159_.ref p215_ y161_) (g.row (y159_.ref p215_ y161_)).1.2.2.1 (by decide) (by decide)
              have t913_ : (qN S48_890 (qO S48_890 (qO S48_890 p0 4) 5) : Int) = (qN S28_190 (qO S28_190 (qO S28_190 p0 4) 5) : Int) := by rw [o903_]; exact f891_.kL (j := 5) y159_ (y159_.ref p215_ y161_) (g.row (y159_.ref p215_ y161_)).1.2.2.2.1 (by decide) (by decide)
              have p914_ : qR S48_890 p0 3 = some (qO S48_890 p0 3) := f891_.kP y161_ p214_ (by decide) (by decide)
              have p915_ : qR S48_890 p0 4 = some (qO S48_890 p0 4) := f891_.kP y161_ p215_ (by decide) (by decide)
              have k916_ : qT S48_890 p0 = 44 := f891_.1.T y161_ (by decide)
              have t917_ : (qI S48_890 p0 7).toInt = (if (qI S28_190 p0 7) < (if a23_189 < (1 : Int32) then (1 : Int32) else a23_189) then (if a23_189 < (1 : Int32) then (1 : Int32) else a23_189) else (qI S28_190 p0 7)).toInt := by rw [eS48_890, qI_wI, if_pos ⟨rfl, rfl⟩]
              have g : ShC B S48_890 := ShC.ws y159_ g f891_ (by rw [eS48_890]; rfl) (by rw [eS48_890]; rfl) (by rw [eS48_890]; rfl) rfl rfl
              refine ⟨fun c918_ => ?_, fun c918_ => ?_⟩
              · unfold w_X4_spread_J150
                intro y167_ y168_ y169_
                refine ⟨?_, ?_⟩
                · exact p915_
                refine ⟨?_, ?_⟩
                · exact (dd_X8_targetCount y167_ g (y167_.ref p915_ y168_))
                intro a54_919 ea54_919 
                have ga54_919 := congrArg Int32.toInt ea54_919
                refine ⟨(2147483648 - (0 : Int32).toInt).toNat + 1, ?_⟩
                refine sg_X4_spread_L163  _ g p914_ p915_ ?_ ?_ ?_ ?_
                · have s920_ := (g.hts y168_).2
                  have s921_ := y167_.len9 (y167_.ref (g.hts y168_).1.1 y168_) (by decide)
                  have s922_ := y167_.len9 (y167_.ref (g.hts y168_).1.2.1 y168_) (by decide)
                  have s923_ := y167_.len9 (y167_.ref (g.hts y168_).1.2.2 y168_) (by decide)
                  have s924_ := (g.unit (y167_.ref p914_ y168_)).2
                  have s925_ := (g.row (y167_.ref p915_ y168_)).2
                  have n1_ := li_0k
                  have n2_ := rgI x1
                  have n3_ := rgI a8_134
                  have n4_ := rgI (fX10_takes S (qO S p0 3) (qO S p0 4) x1)
                  have n5_ := rgI r10_135
                  have n6_ := rgI r19_162
                  have n7_ := rgI a23_189
                  have n10_ := rgI x2
                  have n10_ := t_subD (a := x2) (b := r10_135)
                  have n11_ := rgI (x2 - r10_135)
                  have n11_ := t_addD (a := (x2 - r10_135)) (b := r19_162)
                  have n12_ := rgI ((x2 - r10_135) + r19_162)
                  have n13_ := rgI a35_217
                  have n14_ := rgI (fX8_opAt S28_190 (qO S28_190 p0 4) x1)
                  have n15_ := rgI a39_218
                  have n16_ := rgI (fX6_goesOn S28_190 a35_217)
                  have n17_ := rgI (qI S28_190 p0 5)
                  have n18_ := rgI r27_190
                  have n19_ := rgI (qI S48_890 p0 7)
                  have n20_ := rgI (if (qI S28_190 p0 7) < (if a23_189 < (1 : Int32) then (1 : Int32) else a23_189) then (if a23_189 < (1 : Int32) then (1 : Int32) else a23_189) else (qI S28_190 p0 7))
                  have n21_ := rgI a54_919
                  have n22_ := rgI (fX8_targetCount S48_890 (qO S48_890 p0 4) x1)
                  omega
                · have s926_ := (g.hts y168_).2
                  have s927_ := y167_.len9 (y167_.ref (g.hts y168_).1.1 y168_) (by decide)
                  have s928_ := y167_.len9 (y167_.ref (g.hts y168_).1.2.1 y168_) (by decide)
                  have s929_ := y167_.len9 (y167_.ref (g.hts y168_).1.2.2 y168_) (by decide)
                  have s930_ := (g.unit (y167_.ref p914_ y168_)).2
                  have s931_ := (g.row (y167_.ref p915_ y168_)).2
                  have n1_ := rgI x1
                  have n2_ := rgI a8_134
                  have n3_ := rgI (fX10_takes S (qO S p0 3) (qO S p0 4) x1)
                  have n4_ := rgI r10_135
                  have n5_ := rgI r19_162
                  have n6_ := rgI a23_189
                  have n9_ := rgI x2
                  have n9_ := t_subD (a := x2) (b := r10_135)
                  have n10_ := rgI (x2 - r10_135)
                  have n10_ := t_addD (a := (x2 - r10_135)) (b := r19_162)
                  have n11_ := rgI ((x2 - r10_135) + r19_162)
                  have n12_ := rgI a35_217
                  have n13_ := rgI (fX8_opAt S28_190 (qO S28_190 p0 4) x1)
                  have n14_ := rgI a39_218
                  have n15_ := rgI (fX6_goesOn S28_190 a35_217)
                  have n16_ := rgI (qI S28_190 p0 5)
                  have n17_ := rgI r27_190
                  have n18_ := rgI (qI S48_890 p0 7)
                  have n19_ := rgI (if (qI S28_190 p0 7) < (if a23_189 < (1 : Int32) then (1 : Int32) else a23_189) then (if a23_189 < (1 : Int32) then (1 : Int32) else a23_189) else (qI S28_190 p0 7))
                  have n20_ := rgI a54_919
                  have n21_ := rgI (fX8_targetCount S48_890 (qO S48_890 p0 4) x1)
                  omega
                · have s932_ := (g.hts y168_).2
                  have s933_ := y167_.len9 (y167_.ref (g.hts y168_).1.1 y168_) (by decide)
                  have s934_ := y167_.len9 (y167_.ref (g.hts y168_).1.2.1 y168_) (by decide)
                  have s935_ := y167_.len9 (y167_.ref (g.hts y168_).1.2.2 y168_) (by decide)
                  have s936_ := (g.unit (y167_.ref p914_ y168_)).2
                  have s937_ := (g.row (y167_.ref p915_ y168_)).2
                  have n1_ := rgI x1
                  have n2_ := rgI a8_134
                  have n3_ := rgI (fX10_takes S (qO S p0 3) (qO S p0 4) x1)
                  have n4_ := rgI r10_135
                  have n5_ := rgI r19_162
                  have n6_ := rgI a23_189
                  have n9_ := rgI x2
                  have n9_ := t_subD (a := x2) (b := r10_135)
                  have n10_ := rgI (x2 - r10_135)
                  have n10_ := t_addD (a := (x2 - r10_135)) (b := r19_162)
                  have n11_ := rgI ((x2 - r10_135) + r19_162)
                  have n12_ := rgI a35_217
                  have n13_ := rgI (fX8_opAt S28_190 (qO S28_190 p0 4) x1)
                  have n14_ := rgI a39_218
                  have n15_ := rgI (fX6_goesOn S28_190 a35_217)
                  have n16_ := rgI (qI S28_190 p0 5)
                  have n17_ := rgI r27_190
                  have n18_ := rgI (qI S48_890 p0 7)
                  have n19_ := rgI (if (qI S28_190 p0 7) < (if a23_189 < (1 : Int32) then (1 : Int32) else a23_189) then (if a23_189 < (1 : Int32) then (1 : Int32) else a23_189) else (qI S28_190 p0 7))
                  have n20_ := rgI a54_919
                  have n21_ := rgI (fX8_targetCount S48_890 (qO S48_890 p0 4) x1)
                  omega
                · have s938_ := (g.hts y168_).2
                  have s939_ := y167_.len9 (y167_.ref (g.hts y168_).1.1 y168_) (by decide)
                  have s940_ := y167_.len9 (y167_.ref (g.hts y168_).1.2.1 y168_) (by decide)
                  have s941_ := y167_.len9 (y167_.ref (g.hts y168_).1.2.2 y168_) (by decide)
                  have s942_ := (g.unit (y167_.ref p914_ y168_)).2
                  have s943_ := (g.row (y167_.ref p915_ y168_)).2
                  have n1_ := li_0k
                  have n2_ := rgI x1
                  have n3_ := rgI a8_134
                  have n4_ := rgI (fX10_takes S (qO S p0 3) (qO S p0 4) x1)
                  have n5_ := rgI r10_135
                  have n6_ := rgI r19_162
                  have n7_ := rgI a23_189
                  have n10_ := rgI x2
                  have n10_ := t_subD (a := x2) (b := r10_135)
                  have n11_ := rgI (x2 - r10_135)
                  have n11_ := t_addD (a := (x2 - r10_135)) (b := r19_162)
                  have n12_ := rgI ((x2 - r10_135) + r19_162)
                  have n13_ := rgI a35_217
                  have n14_ := rgI (fX8_opAt S28_190 (qO S28_190 p0 4) x1)
                  have n15_ := rgI a39_218
                  have n16_ := rgI (fX6_goesOn S28_190 a35_217)
                  have n17_ := rgI (qI S28_190 p0 5)
                  have n18_ := rgI r27_190
                  have n19_ := rgI (qI S48_890 p0 7)
                  have n20_ := rgI (if (qI S28_190 p0 7) < (if a23_189 < (1 : Int32) then (1 : Int32) else a23_189) then (if a23_189 < (1 : Int32) then (1 : Int32) else a23_189) else (qI S28_190 p0 7))
                  have n21_ := rgI a54_919
                  have n22_ := rgI (fX8_targetCount S48_890 (qO S48_890 p0 4) x1)
                  omega
              · intro y170_
                refine ⟨_, frX4_comeTo y166_ (sgX4_comeTo y166_ g y170_ p915_), ?_⟩
                intro S90_944 q171_ y172_ y173_
                have t945_ : (qI S90_944 p0 7).toInt = (qI S48_890 p0 7).toInt := congrArg Int32.toInt (q171_.2.kI (j := 7) y170_ (by decide) (by decide))
                have t946_ : (qI S90_944 p0 5).toInt = (qI S48_890 p0 5).toInt := congrArg Int32.toInt (q171_.2.kI (j := 5) y170_ (by decide) (by decide))
                have t947_ : (qN S90_944 (qO S90_944 p0 1) : Int) = (qN S48_890 (qO S48_890 p0 1) : Int) := q171_.2.kL (j := 1) y166_ y170_ (g.hts y170_).1.2.1 (by decide) (by decide)
                have t948_ : (qN S90_944 (qO S90_944 p0 0) : Int) = (qN S48_890 (qO S48_890 p0 0) : Int) := q171_.2.kL (j := 0) y166_ y170_ (g.hts y170_).1.1 (by decide) (by decide)
                have t949_ : (qN S90_944 (qO S90_944 p0 2) : Int) = (qN S48_890 (qO S48_890 p0 2) : Int) := q171_.2.kL (j := 2) y166_ y170_ (g.hts y170_).1.2.2 (by decide) (by decide)
                have o950_ : qO S90_944 p0 3 = qO S48_890 p0 3 := qO_eq (q171_.2.kO y170_ (by decide) (by decide))
                have t951_ : (qI S90_944 (qO S90_944 p0 3) 8).toInt = (qI S48_890 (qO S48_890 p0 3) 8).toInt := by rw [o950_]; exact congrArg Int32.toInt (q171_.2.kI (j := 8) (y166_.ref p914_ y170_) (by decide) (by decide))
                have t952_ : (qI S90_944 (qO S90_944 p0 3) 4).toInt = (qI S48_890 (qO S48_890 p0 3) 4).toInt := by rw [o950_]; exact congrArg Int32.toInt (q171_.2.kI (j := 4) (y166_.ref p914_ y170_) (by decide) (by decide))
                have t953_ : (qN S90_944 (qO S90_944 (qO S90_944 p0 3) 13) : Int) = (qN S48_890 (qO S48_890 (qO S48_890 p0 3) 13) : Int) := by rw [o950_]; exact q171_.2.kL (j := 13) y166_ (y166_.ref p914_ y170_) (g.unit (y166_.ref p914_ y170_)).1.2.2.2.2.2.2.2.2 (by decide) (by decide)
                have t954_ : (qN S90_944 (qO S90_944 (qO S90_944 p0 3) 9) : Int) = (qN S48_890 (qO S48_890 (qO S48_890 p0 3) 9) : Int) := by rw [o950_]; exact q171_.2.kL (j := 9) y166_ (y166_.ref p914_ y170_) (g.unit (y166_.ref p914_ y170_)).1.2.2.2.2.1 (by decide) (by decide)
                have t955_ : (qN S90_944 (qO S90_944 (qO S90_944 p0 3) 5) : Int) = (qN S48_890 (qO S48_890 (qO S48_890 p0 3) 5) : Int) := by rw [o950_]; exact q171_.2.kL (j := 5) y166_ (y166_.ref p914_ y170_) (g.unit (y166_.ref p914_ y170_)).1.2.1 (by decide) (by decide)
                have o956_ : qO S90_944 p0 4 = qO S48_890 p0 4 := qO_eq (q171_.2.kO y170_ (by decide) (by decide))
                have t957_ : (qI S90_944 (qO S90_944 p0 4) 4).toInt = (qI S48_890 (qO S48_890 p0 4) 4).toInt := by rw [o956_]; exact congrArg Int32.toInt (q171_.2.kI (j := 4) (y166_.ref p915_ y170_) (by decide) (by decide))
                have t958_ : (qI S90_944 (qO S90_944 p0 4) 9).toInt = (qI S48_890 (qO S48_890 p0 4) 9).toInt := by rw [o956_]; exact congrArg Int32.toInt (q171_.2.kI (j := 9) (y166_.ref p915_ y170_) (by decide) (by decide))
                have t959_ : (qI S90_944 (qO S90_944 p0 4) 2).toInt = (qI S48_890 (qO S48_890 p0 4) 2).toInt := by rw [o956_]; exact congrArg Int32.toInt (q171_.2.kI (j := 2) (y166_.ref p915_ y170_) (by decide) (by decide))
                have t960_ : (qN S90_944 (qO S90_944 (qO S90_944 p0 4) 1) : Int) = (qN S48_890 (qO S48_890 (qO S48_890 p0 4) 1) : Int) := by rw [o956_]; exact q171_.2.kL (j := 1) y166_ (y166_.ref p915_ y170_) (g.row (y166_.ref p915_ y170_)).1.2.1 (by decide) (by decide)
                have t961_ : (qN S90_944 (qO S90_944 (qO S90_944 p0 4) 8) : Int) = (qN S48_890 (qO S48_890 (qO S48_890 p0 4) 8) : Int) := by rw [o956_]; exact q171_.2.kL (j := 8) y166_ (y166_.ref p915_ y170_) (g.row (y166_.ref p915_ y170_)).1.2.2.2.2.2.2 (by decide) (by decide)
                have t962_ : (qN S90_944 (qO S90_944 (qO S90_944 p0 4) 7) : Int) = (qN S48_890 (qO S48_890 (qO S48_890 p0 4) 7) : Int) := by rw [o956_]; exact q171_.2.kL (j := 7) y166_ (y166_.ref p915_ y170_) (g.row (y166_.ref p915_ y170_)).1.2.2.2.2.2.1 (by decide) (by decide)
                have t963_ : (qN S90_944 (qO S90_944 (qO S90_944 p0 4) 0) : Int) = (qN S48_890 (qO S48_890 (qO S48_890 p0 4) 0) : Int) := by rw [o956_]; exact q171_.2.kL (j := 0) y166_ (y166_.ref p915_ y170_) (g.row (y166_.ref p915_ y170_)).1.1 (by decide) (by decide)
                have t964_ : (qN S90_944 (qO S90_944 (qO S90_944 p0 4) 6) : Int) = (qN S48_890 (qO S48_890 (qO S48_890 p0 4) 6) : Int) := by rw [o956_]; exact q171_.2.kL (j := 6) y166_ (y166_.ref p915_ y170_) (g.row (y166_.ref p915_ y170_)).1.2.2.2.2.1 (by decide) (by decide)
                have t965_ : (qN S90_944 (qO S90_944 (qO S90_944 p0 4) 3) : Int) = (qN S48_890 (qO S48_890 (qO S48_890 p0 4) 3) : Int) := by rw [o956_]; exact q171_.2.kL (j := 3) y166_ (y166_.ref p915_ y170_) (g.row (y166_.ref p915_ y170_)).1.2.2.1 (by decide) (by decide)
                have t966_ : (qN S90_944 (qO S90_944 (qO S90_944 p0 4) 5) : Int) = (qN S48_890 (qO S48_890 (qO S48_890 p0 4) 5) : Int) := by rw [o956_]; exact q171_.2.kL (j := 5) y166_ (y166_.ref p915_ y170_) (g.row (y166_.ref p915_ y170_)).1.2.2.2.1 (by decide) (by decide)
                have p967_ : qR S90_944 p0 3 = some (qO S90_944 p0 3) := q171_.2.kP y170_ p914_ (by decide) (by decide)
                have p968_ : qR S90_944 p0 4 = some (qO S90_944 p0 4) := q171_.2.kP y170_ p915_ (by decide) (by decide)
                have k969_ : qT S90_944 p0 = 44 := q171_.2.1.T y170_ (by decide)
                have g : ShC B S90_944 := q171_.1.1
                unfold w_X4_spread_J150
                intro y174_ y175_ y176_
                refine ⟨?_, ?_⟩
                · exact p968_
                refine ⟨?_, ?_⟩
                · exact (dd_X8_targetCount y174_ g (y174_.ref p968_ y175_))
                intro a54_970 ea54_970 
                have ga54_970 := congrArg Int32.toInt ea54_970
                refine ⟨(2147483648 - (0 : Int32).toInt).toNat + 1, ?_⟩
                refine sg_X4_spread_L163  _ g p967_ p968_ ?_ ?_ ?_ ?_
                · have s971_ := (g.hts y175_).2
                  have s972_ := y174_.len9 (y174_.ref (g.hts y175_).1.1 y175_) (by decide)
                  have s973_ := y174_.len9 (y174_.ref (g.hts y175_).1.2.1 y175_) (by decide)
                  have s974_ := y174_.len9 (y174_.ref (g.hts y175_).1.2.2 y175_) (by decide)
                  have s975_ := (g.unit (y174_.ref p967_ y175_)).2
                  have s976_ := (g.row (y174_.ref p968_ y175_)).2
                  have n1_ := li_0k
                  have n2_ := rgI x1
                  have n3_ := rgI a8_134
                  have n4_ := rgI (fX10_takes S (qO S p0 3) (qO S p0 4) x1)
                  have n5_ := rgI r10_135
                  have n6_ := rgI r19_162
                  have n7_ := rgI a23_189
                  have n10_ := rgI x2
                  have n10_ := t_subD (a := x2) (b := r10_135)
                  have n11_ := rgI (x2 - r10_135)
                  have n11_ := t_addD (a := (x2 - r10_135)) (b := r19_162)
                  have n12_ := rgI ((x2 - r10_135) + r19_162)
                  have n13_ := rgI a35_217
                  have n14_ := rgI (fX8_opAt S28_190 (qO S28_190 p0 4) x1)
                  have n15_ := rgI a39_218
                  have n16_ := rgI (fX6_goesOn S28_190 a35_217)
                  have n17_ := rgI (qI S28_190 p0 5)
                  have n18_ := rgI r27_190
                  have n19_ := rgI (qI S48_890 p0 7)
                  have n20_ := rgI (if (qI S28_190 p0 7) < (if a23_189 < (1 : Int32) then (1 : Int32) else a23_189) then (if a23_189 < (1 : Int32) then (1 : Int32) else a23_189) else (qI S28_190 p0 7))
                  have n21_ := rgI a54_970
                  have n22_ := rgI (fX8_targetCount S90_944 (qO S90_944 p0 4) x1)
                  omega
                · have s977_ := (g.hts y175_).2
                  have s978_ := y174_.len9 (y174_.ref (g.hts y175_).1.1 y175_) (by decide)
                  have s979_ := y174_.len9 (y174_.ref (g.hts y175_).1.2.1 y175_) (by decide)
                  have s980_ := y174_.len9 (y174_.ref (g.hts y175_).1.2.2 y175_) (by decide)
                  have s981_ := (g.unit (y174_.ref p967_ y175_)).2
                  have s982_ := (g.row (y174_.ref p968_ y175_)).2
                  have n1_ := rgI x1
                  have n2_ := rgI a8_134
                  have n3_ := rgI (fX10_takes S (qO S p0 3) (qO S p0 4) x1)
                  have n4_ := rgI r10_135
                  have n5_ := rgI r19_162
                  have n6_ := rgI a23_189
                  have n9_ := rgI x2
                  have n9_ := t_subD (a := x2) (b := r10_135)
                  have n10_ := rgI (x2 - r10_135)
                  have n10_ := t_addD (a := (x2 - r10_135)) (b := r19_162)
                  have n11_ := rgI ((x2 - r10_135) + r19_162)
                  have n12_ := rgI a35_217
                  have n13_ := rgI (fX8_opAt S28_190 (qO S28_190 p0 4) x1)
                  have n14_ := rgI a39_218
                  have n15_ := rgI (fX6_goesOn S28_190 a35_217)
                  have n16_ := rgI (qI S28_190 p0 5)
                  have n17_ := rgI r27_190
                  have n18_ := rgI (qI S48_890 p0 7)
                  have n19_ := rgI (if (qI S28_190 p0 7) < (if a23_189 < (1 : Int32) then (1 : Int32) else a23_189) then (if a23_189 < (1 : Int32) then (1 : Int32) else a23_189) else (qI S28_190 p0 7))
                  have n20_ := rgI a54_970
                  have n21_ := rgI (fX8_targetCount S90_944 (qO S90_944 p0 4) x1)
                  omega
                · have s983_ := (g.hts y175_).2
                  have s984_ := y174_.len9 (y174_.ref (g.hts y175_).1.1 y175_) (by decide)
                  have s985_ := y174_.len9 (y174_.ref (g.hts y175_).1.2.1 y175_) (by decide)
                  have s986_ := y174_.len9 (y174_.ref (g.hts y175_).1.2.2 y175_) (by decide)
                  have s987_ := (g.unit (y174_.ref p967_ y175_)).2
                  have s988_ := (g.row (y174_.ref p968_ y175_)).2
                  have n1_ := rgI x1
                  have n2_ := rgI a8_134
                  have n3_ := rgI (fX10_takes S (qO S p0 3) (qO S p0 4) x1)
                  have n4_ := rgI r10_135
                  have n5_ := rgI r19_162
                  have n6_ := rgI a23_189
                  have n9_ := rgI x2
                  have n9_ := t_subD (a := x2) (b := r10_135)
                  have n10_ := rgI (x2 - r10_135)
                  have n10_ := t_addD (a := (x2 - r10_135)) (b := r19_162)
                  have n11_ := rgI ((x2 - r10_135) + r19_162)
                  have n12_ := rgI a35_217
                  have n13_ := rgI (fX8_opAt S28_190 (qO S28_190 p0 4) x1)
                  have n14_ := rgI a39_218
                  have n15_ := rgI (fX6_goesOn S28_190 a35_217)
                  have n16_ := rgI (qI S28_190 p0 5)
                  have n17_ := rgI r27_190
                  have n18_ := rgI (qI S48_890 p0 7)
                  have n19_ := rgI (if (qI S28_190 p0 7) < (if a23_189 < (1 : Int32) then (1 : Int32) else a23_189) then (if a23_189 < (1 : Int32) then (1 : Int32) else a23_189) else (qI S28_190 p0 7))
                  have n20_ := rgI a54_970
                  have n21_ := rgI (fX8_targetCount S90_944 (qO S90_944 p0 4) x1)
                  omega
                · have s989_ := (g.hts y175_).2
                  have s990_ := y174_.len9 (y174_.ref (g.hts y175_).1.1 y175_) (by decide)
                  have s991_ := y174_.len9 (y174_.ref (g.hts y175_).1.2.1 y175_) (by decide)
                  have s992_ := y174_.len9 (y174_.ref (g.hts y175_).1.2.2 y175_) (by decide)
                  have s993_ := (g.unit (y174_.ref p967_ y175_)).2
                  have s994_ := (g.row (y174_.ref p968_ y175_)).2
                  have n1_ := li_0k
                  have n2_ := rgI x1
                  have n3_ := rgI a8_134
                  have n4_ := rgI (fX10_takes S (qO S p0 3) (qO S p0 4) x1)
                  have n5_ := rgI r10_135
                  have n6_ := rgI r19_162
                  have n7_ := rgI a23_189
                  have n10_ := rgI x2
                  have n10_ := t_subD (a := x2) (b := r10_135)
                  have n11_ := rgI (x2 - r10_135)
                  have n11_ := t_addD (a := (x2 - r10_135)) (b := r19_162)
                  have n12_ := rgI ((x2 - r10_135) + r19_162)
                  have n13_ := rgI a35_217
                  have n14_ := rgI (fX8_opAt S28_190 (qO S28_190 p0 4) x1)
                  have n15_ := rgI a39_218
                  have n16_ := rgI (fX6_goesOn S28_190 a35_217)
                  have n17_ := rgI (qI S28_190 p0 5)
                  have n18_ := rgI r27_190
                  have n19_ := rgI (qI S48_890 p0 7)
                  have n20_ := rgI (if (qI S28_190 p0 7) < (if a23_189 < (1 : Int32) then (1 : Int32) else a23_189) then (if a23_189 < (1 : Int32) then (1 : Int32) else a23_189) else (qI S28_190 p0 7))
                  have n21_ := rgI a54_970
                  have n22_ := rgI (fX8_targetCount S90_944 (qO S90_944 p0 4) x1)
                  omega
          · refine ⟨?_, ?_⟩
            · exact p215_
            refine ⟨fun c995_ => ?_, fun c995_ => ?_⟩
            · unfold w_X4_spread_J110
              intro y177_ y178_ y179_ y180_
              refine ⟨fun c996_ => ?_, fun c996_ => ?_⟩
              · unfold w_X4_spread_J127
                intro y181_ y182_ y183_ y184_ y185_ y186_
                intro S48_997 eS48_997 y187_ y188_
                have f998_ : cfr [] [(44, 7)] S28_190 S48_997 := by rw [eS48_997]; exact cfr.oI y187_ (by decide)
                have t999_ : (qI S48_997 p0 6).toInt = (qI S28_190 p0 6).toInt := congrArg Int32.toInt (f998_.kI (j := 6) y183_ (by decide) (by decide))
                have t1000_ : (qI S48_997 p0 5).toInt = (qI S28_190 p0 5).toInt := congrArg Int32.toInt (f998_.kI (j := 5) y183_ (by decide) (by decide))
                have t1001_ : (qN S48_997 (qO S48_997 p0 1) : Int) = (qN S28_190 (qO S28_190 p0 1) : Int) := f998_.kL (j := 1) y181_ y183_ (g.hts y183_).1.2.1 (by decide) (by decide)
                have t1002_ : (qN S48_997 (qO S48_997 p0 0) : Int) = (qN S28_190 (qO S28_190 p0 0) : Int) := f998_.kL (j := 0) y181_ y183_ (g.hts y183_).1.1 (by decide) (by decide)
                have t1003_ : (qN S48_997 (qO S48_997 p0 2) : Int) = (qN S28_190 (qO S28_190 p0 2) : Int) := f998_.kL (j := 2) y181_ y183_ (g.hts y183_).1.2.2 (by decide) (by decide)
                have o1004_ : qO S48_997 p0 3 = qO S28_190 p0 3 := qO_eq (f998_.kO y183_ (by decide) (by decide))
                have t1005_ : (qI S48_997 (qO S48_997 p0 3) 8).toInt = (qI S28_190 (qO S28_190 p0 3) 8).toInt := by rw [o1004_]; exact congrArg Int32.toInt (f998_.kI (j := 8) (y181_.ref p214_ y183_) (by decide) (by decide))
                have t1006_ : (qI S48_997 (qO S48_997 p0 3) 4).toInt = (qI S28_190 (qO S28_190 p0 3) 4).toInt := by rw [o1004_]; exact congrArg Int32.toInt (f998_.kI (j := 4) (y181_.ref p214_ y183_) (by decide) (by decide))
                have t1007_ : (qN S48_997 (qO S48_997 (qO S48_997 p0 3) 13) : Int) = (qN S28_190 (qO S28_190 (qO S28_190 p0 3) 13) : Int) := by rw [o1004_]; exact f998_.kL (j := 13) y181_ (y181_.ref p214_ y183_) (g.unit (y181_.ref p214_ y183_)).1.2.2.2.2.2.2.2.2 (by decide) (by decide)
                have t1008_ : (qN S48_997 (qO S48_997 (qO S48_997 p0 3) 9) : Int) = (qN S28_190 (qO S28_190 (qO S28_190 p0 3) 9) : Int) := by rw [o1004_]; exact f998_.kL (j := 9) y181_ (y181_.ref p214_ y183_) (g.unit (y181_.ref p214_ y183_)).1.2.2.2.2.1 (by decide) (by decide)
                have t1009_ : (qN S48_997 (qO S48_997 (qO S48_997 p0 3) 5) : Int) = (qN S28_190 (qO S28_190 (qO S28_190 p0 3) 5) : Int) := by rw [o1004_]; exact f998_.kL (j := 5) y181_ (y181_.ref p214_ y183_) (g.unit (y181_.ref p214_ y183_)).1.2.1 (by decide) (by decide)
                have o1010_ : qO S48_997 p0 4 = qO S28_190 p0 4 := qO_eq (f998_.kO y183_ (by decide) (by decide))
                have t1011_ : (qI S48_997 (qO S48_997 p0 4) 4).toInt = (qI S28_190 (qO S28_190 p0 4) 4).toInt := by rw [o1010_]; exact congrArg Int32.toInt (f998_.kI (j := 4) (y181_.ref p215_ y183_) (by decide) (by decide))
                have t1012_ : (qI S48_997 (qO S48_997 p0 4) 9).toInt = (qI S28_190 (qO S28_190 p0 4) 9).toInt := by rw [o1010_]; exact congrArg Int32.toInt (f998_.kI (j := 9) (y181_.ref p215_ y183_) (by decide) (by decide))
                have t1013_ : (qI S48_997 (qO S48_997 p0 4) 2).toInt = (qI S28_190 (qO S28_190 p0 4) 2).toInt := by rw [o1010_]; exact congrArg Int32.toInt (f998_.kI (j := 2) (y181_.ref p215_ y183_) (by decide) (by decide))
                have t1014_ : (qN S48_997 (qO S48_997 (qO S48_997 p0 4) 1) : Int) = (qN S28_190 (qO S28_190 (qO S28_190 p0 4) 1) : Int) := by rw [o1010_]; exact f998_.kL (j := 1) y181_ (y181_.ref p215_ y183_) (g.row (y181_.ref p215_ y183_)).1.2.1 (by decide) (by decide)
                have t1015_ : (qN S48_997 (qO S48_997 (qO S48_997 p0 4) 8) : Int) = (qN S28_190 (qO S28_190 (qO S28_190 p0 4) 8) : Int) := by rw [o1010_]; exact f998_.kL (j := 8) y181_ (y181_.ref p215_ y183_) (g.row (y181_.ref p215_ y183_)).1.2.2.2.2.2.2 (by decide) (by decide)
                have t1016_ : (qN S48_997 (qO S48_997 (qO S48_997 p0 4) 7) : Int) = (qN S28_190 (qO S28_190 (qO S28_190 p0 4) 7) : Int) := by rw [o1010_]; exact f998_.kL (j := 7) y181_ (y181_.ref p215_ y183_) (g.row (y181_.ref p215_ y183_)).1.2.2.2.2.2.1 (by decide) (by decide)
                have t1017_ : (qN S48_997 (qO S48_997 (qO S48_997 p0 4) 0) : Int) = (qN S28_190 (qO S28_190 (qO S28_190 p0 4) 0) : Int) := by rw [o1010_]; exact f998_.kL (j := 0) y181_ (y181_.ref p215_ y183_) (g.row (y181_.ref p215_ y183_)).1.1 (by decide) (by decide)
                have t1018_ : (qN S48_997 (qO S48_997 (qO S48_997 p0 4) 6) : Int) = (qN S28_190 (qO S28_190 (qO S28_190 p0 4) 6) : Int) := by rw [o1010_]; exact f998_.kL (j := 6) y181_ (y181_.ref p215_ y183_) (g.row (y181_.ref p215_ y183_)).1.2.2.2.2.1 (by decide) (by decide)
                have t1019_ : (qN S48_997 (qO S48_997 (qO S48_997 p0 4) 3) : Int) = (qN S28_190 (qO S28_190 (qO S28_190 p0 4) 3) : Int) := by rw [o1010_]; exact f998_.kL (j := 3) y181_ (y181_.ref p215_ y183_) (g.row (y181_.ref p215_ y183_)).1.2.2.1 (by decide) (by decide)
                have t1020_ : (qN S48_997 (qO S48_997 (qO S48_997 p0 4) 5) : Int) = (qN S28_190 (qO S28_190 (qO S28_190 p0 4) 5) : Int) := by rw [o1010_]; exact f998_.kL (j := 5) y181_ (y181_.ref p215_ y183_) (g.row (y181_.ref p215_ y183_)).1.2.2.2.1 (by decide) (by decide)
                have p1021_ : qR S48_997 p0 3 = some (qO S48_997 p0 3) := f998_.kP y183_ p214_ (by decide) (by decide)
                have p1022_ : qR S48_997 p0 4 = some (qO S48_997 p0 4) := f998_.kP y183_ p215_ (by decide) (by decide)
                have k1023_ : qT S48_997 p0 = 44 := f998_.1.T y183_ (by decide)
                have t1024_ : (qI S48_997 p0 7).toInt = (if (qI S28_190 p0 7) < (if a23_189 < (0 : Int32) then (0 : Int32) else a23_189) then (if a23_189 < (0 : Int32) then (0 : Int32) else a23_189) else (qI S28_190 p0 7)).toInt := by rw [eS48_997, qI_wI, if_pos ⟨rfl, rfl⟩]
                have g : ShC B S48_997 := ShC.ws y181_ g f998_ (by rw [eS48_997]; rfl) (by rw [eS48_997]; rfl) (by rw [eS48_997]; rfl) rfl rfl
                refine ⟨fun c1025_ => ?_, fun c1025_ => ?_⟩
                · unfold w_X4_spread_J150
                  intro y189_ y190_ y191_
                  refine ⟨?_, ?_⟩
                  · exact p1022_
                  refine ⟨?_, ?_⟩
                  · exact (dd_X8_targetCount y189_ g (y189_.ref p1022_ y190_))
                  intro a54_1026 ea54_1026 
                  have ga54_1026 := congrArg Int32.toInt ea54_1026
                  refine ⟨(2147483648 - (0 : Int32).toInt).toNat + 1, ?_⟩
                  refine sg_X4_spread_L163  _ g p1021_ p1022_ ?_ ?_ ?_ ?_
                  · have s1027_ := (g.hts y190_).2
                    have s1028_ := y189_.len9 (y189_.ref (g.hts y190_).1.1 y190_) (by decide)
                    have s1029_ := y189_.len9 (y189_.ref (g.hts y190_).1.2.1 y190_) (by decide)
                    have s1030_ := y189_.len9 (y189_.ref (g.hts y190_).1.2.2 y190_) (by decide)
                    have s1031_ := (g.unit (y189_.ref p1021_ y190_)).2
                    have s1032_ := (g.row (y189_.ref p1022_ y190_)).2
                    have n1_ := li_0k
                    have n2_ := rgI x1
                    have n3_ := rgI a8_134
                    have n4_ := rgI (fX10_takes S (qO S p0 3) (qO S p0 4) x1)
                    have n5_ := rgI r10_135
                    have n6_ := rgI r19_162
                    have n7_ := rgI a23_189
                    have n10_ := rgI x2
                    have n10_ := t_subD (a := x2) (b := r10_135)
                    have n11_ := rgI (x2 - r10_135)
                    have n11_ := t_addD (a := (x2 - r10_135)) (b := r19_162)
                    have n12_ := rgI ((x2 - r10_135) + r19_162)
                    have n13_ := rgI a35_217
                    have n14_ := rgI (fX8_opAt S28_190 (qO S28_190 p0 4) x1)
                    have n15_ := rgI a39_218
                    have n16_ := rgI (fX6_goesOn S28_190 a35_217)
                    have n17_ := rgI (qI S28_190 p0 5)
                    have n18_ := rgI r27_190
                    have n20_ := li_1k
                    have n20_ := t_addD (a := x1) (b := (1 : Int32))
                    have n21_ := rgI (x1 + (1 : Int32))
                    have n22_ := rgI (qI S28_190 (qO S28_190 p0 4) 2)
                    have n23_ := rgI (qI S48_997 p0 7)
                    have n24_ := rgI (if (qI S28_190 p0 7) < (if a23_189 < (0 : Int32) then (0 : Int32) else a23_189) then (if a23_189 < (0 : Int32) then (0 : Int32) else a23_189) else (qI S28_190 p0 7))
                    have n25_ := rgI a54_1026
                    have n26_ := rgI (fX8_targetCount S48_997 (qO S48_997 p0 4) x1)
                    omega
                  · have s1033_ := (g.hts y190_).2
                    have s1034_ := y189_.len9 (y189_.ref (g.hts y190_).1.1 y190_) (by decide)
                    have s1035_ := y189_.len9 (y189_.ref (g.hts y190_).1.2.1 y190_) (by decide)
                    have s1036_ := y189_.len9 (y189_.ref (g.hts y190_).1.2.2 y190_) (by decide)
                    have s1037_ := (g.unit (y189_.ref p1021_ y190_)).2
                    have s1038_ := (g.row (y189_.ref p1022_ y190_)).2
                    have n1_ := rgI x1
                    have n2_ := rgI a8_134
                    have n3_ := rgI (fX10_takes S (qO S p0 3) (qO S p0 4) x1)
                    have n4_ := rgI r10_135
                    have n5_ := rgI r19_162
                    have n6_ := rgI a23_189
                    have n9_ := rgI x2
                    have n9_ := t_subD (a := x2) (b := r10_135)
                    have n10_ := rgI (x2 - r10_135)
                    have n10_ := t_addD (a := (x2 - r10_135)) (b := r19_162)
                    have n11_ := rgI ((x2 - r10_135) + r19_162)
                    have n12_ := rgI a35_217
                    have n13_ := rgI (fX8_opAt S28_190 (qO S28_190 p0 4) x1)
                    have n14_ := rgI a39_218
                    have n15_ := rgI (fX6_goesOn S28_190 a35_217)
                    have n16_ := rgI (qI S28_190 p0 5)
                    have n17_ := rgI r27_190
                    have n19_ := li_1k
                    have n19_ := t_addD (a := x1) (b := (1 : Int32))
                    have n20_ := rgI (x1 + (1 : Int32))
                    have n21_ := rgI (qI S28_190 (qO S28_190 p0 4) 2)
                    have n22_ := rgI (qI S48_997 p0 7)
                    have n23_ := rgI (if (qI S28_190 p0 7) < (if a23_189 < (0 : Int32) then (0 : Int32) else a23_189) then (if a23_189 < (0 : Int32) then (0 : Int32) else a23_189) else (qI S28_190 p0 7))
                    have n24_ := rgI a54_1026
                    have n25_ := rgI (fX8_targetCount S48_997 (qO S48_997 p0 4) x1)
                    omega
                  · have s1039_ := (g.hts y190_).2
                    have s1040_ := y189_.len9 (y189_.ref (g.hts y190_).1.1 y190_) (by decide)
                    have s1041_ := y189_.len9 (y189_.ref (g.hts y190_).1.2.1 y190_) (by decide)
                    have s1042_ := y189_.len9 (y189_.ref (g.hts y190_).1.2.2 y190_) (by decide)
                    have s1043_ := (g.unit (y189_.ref p1021_ y190_)).2
                    have s1044_ := (g.row (y189_.ref p1022_ y190_)).2
                    have n1_ := rgI x1
                    have n2_ := rgI a8_134
                    have n3_ := rgI (fX10_takes S (qO S p0 3) (qO S p0 4) x1)
                    have n4_ := rgI r10_135
                    have n5_ := rgI r19_162
                    have n6_ := rgI a23_189
                    have n9_ := rgI x2
                    have n9_ := t_subD (a := x2) (b := r10_135)
                    have n10_ := rgI (x2 - r10_135)
                    have n10_ := t_addD (a := (x2 - r10_135)) (b := r19_162)
                    have n11_ := rgI ((x2 - r10_135) + r19_162)
                    have n12_ := rgI a35_217
                    have n13_ := rgI (fX8_opAt S28_190 (qO S28_190 p0 4) x1)
                    have n14_ := rgI a39_218
                    have n15_ := rgI (fX6_goesOn S28_190 a35_217)
                    have n16_ := rgI (qI S28_190 p0 5)
                    have n17_ := rgI r27_190
                    have n19_ := li_1k
                    have n19_ := t_addD (a := x1) (b := (1 : Int32))
                    have n20_ := rgI (x1 + (1 : Int32))
                    have n21_ := rgI (qI S28_190 (qO S28_190 p0 4) 2)
                    have n22_ := rgI (qI S48_997 p0 7)
                    have n23_ := rgI (if (qI S28_190 p0 7) < (if a23_189 < (0 : Int32) then (0 : Int32) else a23_189) then (if a23_189 < (0 : Int32) then (0 : Int32) else a23_189) else (qI S28_190 p0 7))
                    have n24_ := rgI a54_1026
                    have n25_ := rgI (fX8_targetCount S48_997 (qO S48_997 p0 4) x1)
                    omega
                  · have s1045_ := (g.hts y190_).2
                    have s1046_ := y189_.len9 (y189_.ref (g.hts y190_).1.1 y190_) (by decide)
                    have s1047_ := y189_.len9 (y189_.ref (g.hts y190_).1.2.1 y190_) (by decide)
                    have s1048_ := y189_.len9 (y189_.ref (g.hts y190_).1.2.2 y190_) (by decide)
                    have s1049_ := (g.unit (y189_.ref p1021_ y190_)).2
                    have s1050_ := (g.row (y189_.ref p1022_ y190_)).2
                    have n1_ := li_0k
                    have n2_ := rgI x1
                    have n3_ := rgI a8_134
                    have n4_ := rgI (fX10_takes S (qO S p0 3) (qO S p0 4) x1)
                    have n5_ := rgI r10_135
                    have n6_ := rgI r19_162
                    have n7_ := rgI a23_189
                    have n10_ := rgI x2
                    have n10_ := t_subD (a := x2) (b := r10_135)
                    have n11_ := rgI (x2 - r10_135)
                    have n11_ := t_addD (a := (x2 - r10_135)) (b := r19_162)
                    have n12_ := rgI ((x2 - r10_135) + r19_162)
                    have n13_ := rgI a35_217
                    have n14_ := rgI (fX8_opAt S28_190 (qO S28_190 p0 4) x1)
                    have n15_ := rgI a39_218
                    have n16_ := rgI (fX6_goesOn S28_190 a35_217)
                    have n17_ := rgI (qI S28_190 p0 5)
                    have n18_ := rgI r27_190
                    have n20_ := li_1k
                    have n20_ := t_addD (a := x1) (b := (1 : Int32))
                    have n21_ := rgI (x1 + (1 : Int32))
                    have n22_ := rgI (qI S28_190 (qO S28_190 p0 4) 2)
                    have n23_ := rgI (qI S48_997 p0 7)
                    have n24_ := rgI (if (qI S28_190 p0 7) < (if a23_189 < (0 : Int32) then (0 : Int32) else a23_189) then (if a23_189 < (0 : Int32) then (0 : Int32) else a23_189) else (qI S28_190 p0 7))
                    have n25_ := rgI a54_1026
                    have n26_ := rgI (fX8_targetCount S48_997 (qO S48_997 p0 4) x1)
                    omega
                · intro y192_
                  refine ⟨_, frX4_comeTo y188_ (sgX4_comeTo y188_ g y192_ p1022_), ?_⟩
                  intro S90_1051 q193_ y194_ y195_
                  have t1052_ : (qI S90_1051 p0 7).toInt = (qI S48_997 p0 7).toInt := congrArg Int32.toInt (q193_.2.kI (j := 7) y192_ (by decide) (by decide))
                  have t1053_ : (qI S90_1051 p0 5).toInt = (qI S48_997 p0 5).toInt := congrArg Int32.toInt (q193_.2.kI (j := 5) y192_ (by decide) (by decide))
                  have t1054_ : (qN S90_1051 (qO S90_1051 p0 1) : Int) = (qN S48_997 (qO S48_997 p0 1) : Int) := q193_.2.kL (j := 1) y188_ y192_ (g.hts y192_).1.2.1 (by decide) (by decide)
                  have t1055_ : (qN S90_1051 (qO S90_1051 p0 0) : Int) = (qN S48_997 (qO S48_997 p0 0) : Int) := q193_.2.kL (j := 0) y188_ y192_ (g.hts y192_).1.1 (by decide) (by decide)
                  have t1056_ : (qN S90_1051 (qO S90_1051 p0 2) : Int) = (qN S48_997 (qO S48_997 p0 2) : Int) := q193_.2.kL (j := 2) y188_ y192_ (g.hts y192_).1.2.2 (by decide) (by decide)
                  have o1057_ : qO S90_1051 p0 3 = qO S48_997 p0 3 := qO_eq (q193_.2.kO y192_ (by decide) (by decide))
                  have t1058_ : (qI S90_1051 (qO S90_1051 p0 3) 8).toInt = (qI S48_997 (qO S48_997 p0 3) 8).toInt := by rw [o1057_]; exact congrArg Int32.toInt (q193_.2.kI (j := 8) (y188_.ref p1021_ y192_) (by decide) (by decide))
                  have t1059_ : (qI S90_1051 (qO S90_1051 p0 3) 4).toInt = (qI S48_997 (qO S48_997 p0 3) 4).toInt := by rw [o1057_]; exact congrArg Int32.toInt (q193_.2.kI (j := 4) (y188_.ref p1021_ y192_) (by decide) (by decide))
                  have t1060_ : (qN S90_1051 (qO S90_1051 (qO S90_1051 p0 3) 13) : Int) = (qN S48_997 (qO S48_997 (qO S48_997 p0 3) 13) : Int) := by rw [o1057_]; exact q193_.2.kL (j := 13) y188_ (y188_.ref p1021_ y192_) (g.unit (y188_.ref p1021_ y192_)).1.2.2.2.2.2.2.2.2 (by decide) (by decide)
                  have t1061_ : (qN S90_1051 (qO S90_1051 (qO S90_1051 p0 3) 9) : Int) = (qN S48_997 (qO S48_997 (qO S48_997 p0 3) 9) : Int) := by rw [o1057_]; exact q193_.2.kL (j := 9) y188_ (y188_.ref p1021_ y192_) (g.unit (y188_.ref p1021_ y192_)).1.2.2.2.2.1 (by decide) (by decide)
                  have t1062_ : (qN S90_1051 (qO S90_1051 (qO S90_1051 p0 3) 5) : Int) = (qN S48_997 (qO S48_997 (qO S48_997 p0 3) 5) : Int) := by rw [o1057_]; exact q193_.2.kL (j := 5) y188_ (y188_.ref p1021_ y192_) (g.unit (y188_.ref p1021_ y192_)).1.2.1 (by decide) (by decide)
                  have o1063_ : qO S90_1051 p0 4 = qO S48_997 p0 4 := qO_eq (q193_.2.kO y192_ (by decide) (by decide))
                  have t1064_ : (qI S90_1051 (qO S90_1051 p0 4) 4).toInt = (qI S48_997 (qO S48_997 p0 4) 4).toInt := by rw [o1063_]; exact congrArg Int32.toInt (q193_.2.kI (j := 4) (y188_.ref p1022_ y192_) (by decide) (by decide))
                  have t1065_ : (qI S90_1051 (qO S90_1051 p0 4) 9).toInt = (qI S48_997 (qO S48_997 p0 4) 9).toInt := by rw [o1063_]; exact congrArg Int32.toInt (q193_.2.kI (j := 9) (y188_.ref p1022_ y192_) (by decide) (by decide))
                  have t1066_ : (qI S90_1051 (qO S90_1051 p0 4) 2).toInt = (qI S48_997 (qO S48_997 p0 4) 2).toInt := by rw [o1063_]; exact congrArg Int32.toInt (q193_.2.kI (j := 2) (y188_.ref p1022_ y192_) (by decide) (by decide))
                  have t1067_ : (qN S90_1051 (qO S90_1051 (qO S90_1051 p0 4) 1) : Int) = (qN S48_997 (qO S48_997 (qO S48_997 p0 4) 1) : Int) := by rw [o1063_]; exact q193_.2.kL (j := 1) y188_ (y188_.ref p1022_ y192_) (g.row (y188_.ref p1022_ y192_)).1.2.1 (by decide) (by decide)
                  have t1068_ : (qN S90_1051 (qO S90_1051 (qO S90_1051 p0 4) 8) : Int) = (qN S48_997 (qO S48_997 (qO S48_997 p0 4) 8) : Int) := by rw [o1063_]; exact q193_.2.kL (j := 8) y188_ (y188_.ref p1022_ y192_) (g.row (y188_.ref p1022_ y192_)).1.2.2.2.2.2.2 (by decide) (by decide)
                  have t1069_ : (qN S90_1051 (qO S90_1051 (qO S90_1051 p0 4) 7) : Int) = (qN S48_997 (qO S48_997 (qO S48_997 p0 4) 7) : Int) := by rw [o1063_]; exact q193_.2.kL (j := 7) y188_ (y188_.ref p1022_ y192_) (g.row (y188_.ref p1022_ y192_)).1.2.2.2.2.2.1 (by decide) (by decide)
                  have t1070_ : (qN S90_1051 (qO S90_1051 (qO S90_1051 p0 4) 0) : Int) = (qN S48_997 (qO S48_997 (qO S48_997 p0 4) 0) : Int) := by rw [o1063_]; exact q193_.2.kL (j := 0) y188_ (y188_.ref p1022_ y192_) (g.row (y188_.ref p1022_ y192_)).1.1 (by decide) (by decide)
                  have t1071_ : (qN S90_1051 (qO S90_1051 (qO S90_1051 p0 4) 6) : Int) = (qN S48_997 (qO S48_997 (qO S48_997 p0 4) 6) : Int) := by rw [o1063_]; exact q193_.2.kL (j := 6) y188_ (y188_.ref p1022_ y192_) (g.row (y188_.ref p1022_ y192_)).1.2.2.2.2.1 (by decide) (by decide)
                  have t1072_ : (qN S90_1051 (qO S90_1051 (qO S90_1051 p0 4) 3) : Int) = (qN S48_997 (qO S48_997 (qO S48_997 p0 4) 3) : Int) := by rw [o1063_]; exact q193_.2.kL (j := 3) y188_ (y188_.ref p1022_ y192_) (g.row (y188_.ref p1022_ y192_)).1.2.2.1 (by decide) (by decide)
                  have t1073_ : (qN S90_1051 (qO S90_1051 (qO S90_1051 p0 4) 5) : Int) = (qN S48_997 (qO S48_997 (qO S48_997 p0 4) 5) : Int) := by rw [o1063_]; exact q193_.2.kL (j := 5) y188_ (y188_.ref p1022_ y192_) (g.row (y188_.ref p1022_ y192_)).1.2.2.2.1 (by decide) (by decide)
                  have p1074_ : qR S90_1051 p0 3 = some (qO S90_1051 p0 3) := q193_.2.kP y192_ p1021_ (by decide) (by decide)
                  have p1075_ : qR S90_1051 p0 4 = some (qO S90_1051 p0 4) := q193_.2.kP y192_ p1022_ (by decide) (by decide)
                  have k1076_ : qT S90_1051 p0 = 44 := q193_.2.1.T y192_ (by decide)
                  have g : ShC B S90_1051 := q193_.1.1
                  unfold w_X4_spread_J150
                  intro y196_ y197_ y198_
                  refine ⟨?_, ?_⟩
                  · exact p1075_
                  refine ⟨?_, ?_⟩
                  · exact (dd_X8_targetCount y196_ g (y196_.ref p1075_ y197_))
                  intro a54_1077 ea54_1077 
                  have ga54_1077 := congrArg Int32.toInt ea54_1077
                  refine ⟨(2147483648 - (0 : Int32).toInt).toNat + 1, ?_⟩
                  refine sg_X4_spread_L163  _ g p1074_ p1075_ ?_ ?_ ?_ ?_
                  · have s1078_ := (g.hts y197_).2
                    have s1079_ := y196_.len9 (y196_.ref (g.hts y197_).1.1 y197_) (by decide)
                    have s1080_ := y196_.len9 (y196_.ref (g.hts y197_).1.2.1 y197_) (by decide)
                    have s1081_ := y196_.len9 (y196_.ref (g.hts y197_).1.2.2 y197_) (by decide)
                    have s1082_ := (g.unit (y196_.ref p1074_ y197_)).2
                    have s1083_ := (g.row (y196_.ref p1075_ y197_)).2
                    have n1_ := li_0k
                    have n2_ := rgI x1
                    have n3_ := rgI a8_134
                    have n4_ := rgI (fX10_takes S (qO S p0 3) (qO S p0 4) x1)
                    have n5_ := rgI r10_135
                    have n6_ := rgI r19_162
                    have n7_ := rgI a23_189
                    have n10_ := rgI x2
                    have n10_ := t_subD (a := x2) (b := r10_135)
                    have n11_ := rgI (x2 - r10_135)
                    have n11_ := t_addD (a := (x2 - r10_135)) (b := r19_162)
                    have n12_ := rgI ((x2 - r10_135) + r19_162)
                    have n13_ := rgI a35_217
                    have n14_ := rgI (fX8_opAt S28_190 (qO S28_190 p0 4) x1)
                    have n15_ := rgI a39_218
                    have n16_ := rgI (fX6_goesOn S28_190 a35_217)
                    have n17_ := rgI (qI S28_190 p0 5)
                    have n18_ := rgI r27_190
                    have n20_ := li_1k
                    have n20_ := t_addD (a := x1) (b := (1 : Int32))
                    have n21_ := rgI (x1 + (1 : Int32))
                    have n22_ := rgI (qI S28_190 (qO S28_190 p0 4) 2)
                    have n23_ := rgI (qI S48_997 p0 7)
                    have n24_ := rgI (if (qI S28_190 p0 7) < (if a23_189 < (0 : Int32) then (0 : Int32) else a23_189) then (if a23_189 < (0 : Int32) then (0 : Int32) else a23_189) else (qI S28_190 p0 7))
                    have n25_ := rgI a54_1077
                    have n26_ := rgI (fX8_targetCount S90_1051 (qO S90_1051 p0 4) x1)
                    omega
                  · have s1084_ := (g.hts y197_).2
                    have s1085_ := y196_.len9 (y196_.ref (g.hts y197_).1.1 y197_) (by decide)
                    have s1086_ := y196_.len9 (y196_.ref (g.hts y197_).1.2.1 y197_) (by decide)
                    have s1087_ := y196_.len9 (y196_.ref (g.hts y197_).1.2.2 y197_) (by decide)
                    have s1088_ := (g.unit (y196_.ref p1074_ y197_)).2
                    have s1089_ := (g.row (y196_.ref p1075_ y197_)).2
                    have n1_ := rgI x1
                    have n2_ := rgI a8_134
                    have n3_ := rgI (fX10_takes S (qO S p0 3) (qO S p0 4) x1)
                    have n4_ := rgI r10_135
                    have n5_ := rgI r19_162
                    have n6_ := rgI a23_189
                    have n9_ := rgI x2
                    have n9_ := t_subD (a := x2) (b := r10_135)
                    have n10_ := rgI (x2 - r10_135)
                    have n10_ := t_addD (a := (x2 - r10_135)) (b := r19_162)
                    have n11_ := rgI ((x2 - r10_135) + r19_162)
                    have n12_ := rgI a35_217
                    have n13_ := rgI (fX8_opAt S28_190 (qO S28_190 p0 4) x1)
                    have n14_ := rgI a39_218
                    have n15_ := rgI (fX6_goesOn S28_190 a35_217)
                    have n16_ := rgI (qI S28_190 p0 5)
                    have n17_ := rgI r27_190
                    have n19_ := li_1k
                    have n19_ := t_addD (a := x1) (b := (1 : Int32))
                    have n20_ := rgI (x1 + (1 : Int32))
                    have n21_ := rgI (qI S28_190 (qO S28_190 p0 4) 2)
                    have n22_ := rgI (qI S48_997 p0 7)
                    have n23_ := rgI (if (qI S28_190 p0 7) < (if a23_189 < (0 : Int32) then (0 : Int32) else a23_189) then (if a23_189 < (0 : Int32) then (0 : Int32) else a23_189) else (qI S28_190 p0 7))
                    have n24_ := rgI a54_1077
                    have n25_ := rgI (fX8_targetCount S90_1051 (qO S90_1051 p0 4) x1)
                    omega
                  · have s1090_ := (g.hts y197_).2
                    have s1091_ := y196_.len9 (y196_.ref (g.hts y197_).1.1 y197_) (by decide)
                    have s1092_ := y196_.len9 (y196_.ref (g.hts y197_).1.2.1 y197_) (by decide)
                    have s1093_ := y196_.len9 (y196_.ref (g.hts y197_).1.2.2 y197_) (by decide)
                    have s1094_ := (g.unit (y196_.ref p1074_ y197_)).2
                    have s1095_ := (g.row (y196_.ref p1075_ y197_)).2
                    have n1_ := rgI x1
                    have n2_ := rgI a8_134
                    have n3_ := rgI (fX10_takes S (qO S p0 3) (qO S p0 4) x1)
                    have n4_ := rgI r10_135
                    have n5_ := rgI r19_162
                    have n6_ := rgI a23_189
                    have n9_ := rgI x2
                    have n9_ := t_subD (a := x2) (b := r10_135)
                    have n10_ := rgI (x2 - r10_135)
                    have n10_ := t_addD (a := (x2 - r10_135)) (b := r19_162)
                    have n11_ := rgI ((x2 - r10_135) + r19_162)
                    have n12_ := rgI a35_217
                    have n13_ := rgI (fX8_opAt S28_190 (qO S28_190 p0 4) x1)
                    have n14_ := rgI a39_218
                    have n15_ := rgI (fX6_goesOn S28_190 a35_217)
                    have n16_ := rgI (qI S28_190 p0 5)
                    have n17_ := rgI r27_190
                    have n19_ := li_1k
                    have n19_ := t_addD (a := x1) (b := (1 : Int32))
                    have n20_ := rgI (x1 + (1 : Int32))
                    have n21_ := rgI (qI S28_190 (qO S28_190 p0 4) 2)
                    have n22_ := rgI (qI S48_997 p0 7)
                    have n23_ := rgI (if (qI S28_190 p0 7) < (if a23_189 < (0 : Int32) then (0 : Int32) else a23_189) then (if a23_189 < (0 : Int32) then (0 : Int32) else a23_189) else (qI S28_190 p0 7))
                    have n24_ := rgI a54_1077
                    have n25_ := rgI (fX8_targetCount S90_1051 (qO S90_1051 p0 4) x1)
                    omega
                  · have s1096_ := (g.hts y197_).2
                    have s1097_ := y196_.len9 (y196_.ref (g.hts y197_).1.1 y197_) (by decide)
                    have s1098_ := y196_.len9 (y196_.ref (g.hts y197_).1.2.1 y197_) (by decide)
                    have s1099_ := y196_.len9 (y196_.ref (g.hts y197_).1.2.2 y197_) (by decide)
                    have s1100_ := (g.unit (y196_.ref p1074_ y197_)).2
                    have s1101_ := (g.row (y196_.ref p1075_ y197_)).2
                    have n1_ := li_0k
                    have n2_ := rgI x1
                    have n3_ := rgI a8_134
                    have n4_ := rgI (fX10_takes S (qO S p0 3) (qO S p0 4) x1)
                    have n5_ := rgI r10_135
                    have n6_ := rgI r19_162
                    have n7_ := rgI a23_189
                    have n10_ := rgI x2
                    have n10_ := t_subD (a := x2) (b := r10_135)
                    have n11_ := rgI (x2 - r10_135)
                    have n11_ := t_addD (a := (x2 - r10_135)) (b := r19_162)
                    have n12_ := rgI ((x2 - r10_135) + r19_162)
                    have n13_ := rgI a35_217
                    have n14_ := rgI (fX8_opAt S28_190 (qO S28_190 p0 4) x1)
                    have n15_ := rgI a39_218
                    have n16_ := rgI (fX6_goesOn S28_190 a35_217)
                    have n17_ := rgI (qI S28_190 p0 5)
                    have n18_ := rgI r27_190
                    have n20_ := li_1k
                    have n20_ := t_addD (a := x1) (b := (1 : Int32))
                    have n21_ := rgI (x1 + (1 : Int32))
                    have n22_ := rgI (qI S28_190 (qO S28_190 p0 4) 2)
                    have n23_ := rgI (qI S48_997 p0 7)
                    have n24_ := rgI (if (qI S28_190 p0 7) < (if a23_189 < (0 : Int32) then (0 : Int32) else a23_189) then (if a23_189 < (0 : Int32) then (0 : Int32) else a23_189) else (qI S28_190 p0 7))
                    have n25_ := rgI a54_1077
                    have n26_ := rgI (fX8_targetCount S90_1051 (qO S90_1051 p0 4) x1)
                    omega
              · unfold w_X4_spread_J127
                intro y199_ y200_ y201_ y202_ y203_ y204_
                intro S48_1102 eS48_1102 y205_ y206_
                have f1103_ : cfr [] [(44, 7)] S28_190 S48_1102 := by rw [eS48_1102]; exact cfr.oI y205_ (by decide)
                have t1104_ : (qI S48_1102 p0 6).toInt = (qI S28_190 p0 6).toInt := congrArg Int32.toInt (f1103_.kI (j := 6) y201_ (by decide) (by decide))
                have t1105_ : (qI S48_1102 p0 5).toInt = (qI S28_190 p0 5).toInt := congrArg Int32.toInt (f1103_.kI (j := 5) y201_ (by decide) (by decide))
                have t1106_ : (qN S48_1102 (qO S48_1102 p0 1) : Int) = (qN S28_190 (qO S28_190 p0 1) : Int) := f1103_.kL (j := 1) y199_ y201_ (g.hts y201_).1.2.1 (by decide) (by decide)
                have t1107_ : (qN S48_1102 (qO S48_1102 p0 0) : Int) = (qN S28_190 (qO S28_190 p0 0) : Int) := f1103_.kL (j := 0) y199_ y201_ (g.hts y201_).1.1 (by decide) (by decide)
                have t1108_ : (qN S48_1102 (qO S48_1102 p0 2) : Int) = (qN S28_190 (qO S28_190 p0 2) : Int) := f1103_.kL (j := 2) y199_ y201_ (g.hts y201_).1.2.2 (by decide) (by decide)
                have o1109_ : qO S48_1102 p0 3 = qO S28_190 p0 3 := qO_eq (f1103_.kO y201_ (by decide) (by decide))
                have t1110_ : (qI S48_1102 (qO S48_1102 p0 3) 8).toInt = (qI S28_190 (qO S28_190 p0 3) 8).toInt := by rw [o1109_]; exact congrArg Int32.toInt (f1103_.kI (j := 8) (y199_.ref p214_ y201_) (by decide) (by decide))
                have t1111_ : (qI S48_1102 (qO S48_1102 p0 3) 4).toInt = (qI S28_190 (qO S28_190 p0 3) 4).toInt := by rw [o1109_]; exact congrArg Int32.toInt (f1103_.kI (j := 4) (y199_.ref p214_ y201_) (by decide) (by decide))
                have t1112_ : (qN S48_1102 (qO S48_1102 (qO S48_1102 p0 3) 13) : Int) = (qN S28_190 (qO S28_190 (qO S28_190 p0 3) 13) : Int) := by rw [o1109_]; exact f1103_.kL (j := 13) y199_ (y199_.ref p214_ y201_) (g.unit (y199_.ref p214_ y201_)).1.2.2.2.2.2.2.2.2 (by decide) (by decide)
                have t1113_ : (qN S48_1102 (qO S48_1102 (qO S48_1102 p0 3) 9) : Int) = (qN S28_190 (qO S28_190 (qO S28_190 p0 3) 9) : Int) := by rw [o1109_]; exact f1103_.kL (j := 9) y199_ (y199_.ref p214_ y201_) (g.unit (y199_.ref p214_ y201_)).1.2.2.2.2.1 (by decide) (by decide)
                have t1114_ : (qN S48_1102 (qO S48_1102 (qO S48_1102 p0 3) 5) : Int) = (qN S28_190 (qO S28_190 (qO S28_190 p0 3) 5) : Int) := by rw [o1109_]; exact f1103_.kL (j := 5) y199_ (y199_.ref p214_ y201_) (g.unit (y199_.ref p214_ y201_)).1.2.1 (by decide) (by decide)
                have o1115_ : qO S48_1102 p0 4 = qO S28_190 p0 4 := qO_eq (f1103_.kO y201_ (by decide) (by decide))
                have t1116_ : (qI S48_1102 (qO S48_1102 p0 4) 4).toInt = (qI S28_190 (qO S28_190 p0 4) 4).toInt := by rw [o1115_]; exact congrArg Int32.toInt (f1103_.kI (j := 4) (y199_.ref p215_ y201_) (by decide) (by decide))
                have t1117_ : (qI S48_1102 (qO S48_1102 p0 4) 9).toInt = (qI S28_190 (qO S28_190 p0 4) 9).toInt := by rw [o1115_]; exact congrArg Int32.toInt (f1103_.kI (j := 9) (y199_.ref p215_ y201_) (by decide) (by decide))
                have t1118_ : (qI S48_1102 (qO S48_1102 p0 4) 2).toInt = (qI S28_190 (qO S28_190 p0 4) 2).toInt := by rw [o1115_]; exact congrArg Int32.toInt (f1103_.kI (j := 2) (y199_.ref p215_ y201_) (by decide) (by decide))
                have t1119_ : (qN S48_1102 (qO S48_1102 (qO S48_1102 p0 4) 1) : Int) = (qN S28_190 (qO S28_190 (qO S28_190 p0 4) 1) : Int) := by rw [o1115_]; exact f1103_.kL (j := 1) y199_ (y199_.ref p215_ y201_) (g.row (y199_.ref p215_ y201_)).1.2.1 (by decide) (by decide)
                have t1120_ : (qN S48_1102 (qO S48_1102 (qO S48_1102 p0 4) 8) : Int) = (qN S28_190 (qO S28_190 (qO S28_190 p0 4) 8) : Int) := by rw [o1115_]; exact f1103_.kL (j := 8) y199_ (y199_.ref p215_ y201_) (g.row (y199_.ref p215_ y201_)).1.2.2.2.2.2.2 (by decide) (by decide)
                have t1121_ : (qN S48_1102 (qO S48_1102 (qO S48_1102 p0 4) 7) : Int) = (qN S28_190 (qO S28_190 (qO S28_190 p0 4) 7) : Int) := by rw [o1115_]; exact f1103_.kL (j := 7) y199_ (y199_.ref p215_ y201_) (g.row (y199_.ref p215_ y201_)).1.2.2.2.2.2.1 (by decide) (by decide)
                have t1122_ : (qN S48_1102 (qO S48_1102 (qO S48_1102 p0 4) 0) : Int) = (qN S28_190 (qO S28_190 (qO S28_190 p0 4) 0) : Int) := by rw [o1115_]; exact f1103_.kL (j := 0) y199_ (y199_.ref p215_ y201_) (g.row (y199_.ref p215_ y201_)).1.1 (by decide) (by decide)
                have t1123_ : (qN S48_1102 (qO S48_1102 (qO S48_1102 p0 4) 6) : Int) = (qN S28_190 (qO S28_190 (qO S28_190 p0 4) 6) : Int) := by rw [o1115_]; exact f1103_.kL (j := 6) y199_ (y199_.ref p215_ y201_) (g.row (y199_.ref p215_ y201_)).1.2.2.2.2.1 (by decide) (by decide)
                have t1124_ : (qN S48_1102 (qO S48_1102 (qO S48_1102 p0 4) 3) : Int) = (qN S28_190 (qO S28_190 (qO S28_190 p0 4) 3) : Int) := by rw [o1115_]; exact f1103_.kL (j := 3) y199_ (y199_.ref p215_ y201_) (g.row (y199_.ref p215_ y201_)).1.2.2.1 (by decide) (by decide)
                have t1125_ : (qN S48_1102 (qO S48_1102 (qO S48_1102 p0 4) 5) : Int) = (qN S28_190 (qO S28_190 (qO S28_190 p0 4) 5) : Int) := by rw [o1115_]; exact f1103_.kL (j := 5) y199_ (y199_.ref p215_ y201_) (g.row (y199_.ref p215_ y201_)).1.2.2.2.1 (by decide) (by decide)
                have p1126_ : qR S48_1102 p0 3 = some (qO S48_1102 p0 3) := f1103_.kP y201_ p214_ (by decide) (by decide)
                have p1127_ : qR S48_1102 p0 4 = some (qO S48_1102 p0 4) := f1103_.kP y201_ p215_ (by decide) (by decide)
                have k1128_ : qT S48_1102 p0 = 44 := f1103_.1.T y201_ (by decide)
                have t1129_ : (qI S48_1102 p0 7).toInt = (if (qI S28_190 p0 7) < (if a23_189 < (1 : Int32) then (1 : Int32) else a23_189) then (if a23_189 < (1 : Int32) then (1 : Int32) else a23_189) else (qI S28_190 p0 7)).toInt := by rw [eS48_1102, qI_wI, if_pos ⟨rfl, rfl⟩]
                have g : ShC B S48_1102 := ShC.ws y199_ g f1103_ (by rw [eS48_1102]; rfl) (by rw [eS48_1102]; rfl) (by rw [eS48_1102]; rfl) rfl rfl
                refine ⟨fun c1130_ => ?_, fun c1130_ => ?_⟩
                · unfold w_X4_spread_J150
                  intro y207_ y208_ y209_
                  refine ⟨?_, ?_⟩
                  · exact p1127_
                  refine ⟨?_, ?_⟩
                  · exact (dd_X8_targetCount y207_ g (y207_.ref p1127_ y208_))
                  intro a54_1131 ea54_1131 
                  have ga54_1131 := congrArg Int32.toInt ea54_1131
                  refine ⟨(2147483648 - (0 : Int32).toInt).toNat + 1, ?_⟩
                  refine sg_X4_spread_L163  _ g p1126_ p1127_ ?_ ?_ ?_ ?_
                  · have s1132_ := (g.hts y208_).2
                    have s1133_ := y207_.len9 (y207_.ref (g.hts y208_).1.1 y208_) (by decide)
                    have s1134_ := y207_.len9 (y207_.ref (g.hts y208_).1.2.1 y208_) (by decide)
                    have s1135_ := y207_.len9 (y207_.ref (g.hts y208_).1.2.2 y208_) (by decide)
                    have s1136_ := (g.unit (y207_.ref p1126_ y208_)).2
                    have s1137_ := (g.row (y207_.ref p1127_ y208_)).2
                    have n1_ := li_0k
                    have n2_ := rgI x1
                    have n3_ := rgI a8_134
                    have n4_ := rgI (fX10_takes S (qO S p0 3) (qO S p0 4) x1)
                    have n5_ := rgI r10_135
                    have n6_ := rgI r19_162
                    have n7_ := rgI a23_189
                    have n10_ := rgI x2
                    have n10_ := t_subD (a := x2) (b := r10_135)
                    have n11_ := rgI (x2 - r10_135)
                    have n11_ := t_addD (a := (x2 - r10_135)) (b := r19_162)
                    have n12_ := rgI ((x2 - r10_135) + r19_162)
                    have n13_ := rgI a35_217
                    have n14_ := rgI (fX8_opAt S28_190 (qO S28_190 p0 4) x1)
                    have n15_ := rgI a39_218
                    have n16_ := rgI (fX6_goesOn S28_190 a35_217)
                    have n17_ := rgI (qI S28_190 p0 5)
                    have n18_ := rgI r27_190
                    have n20_ := li_1k
                    have n20_ := t_addD (a := x1) (b := (1 : Int32))
                    have n21_ := rgI (x1 + (1 : Int32))
                    have n22_ := rgI (qI S28_190 (qO S28_190 p0 4) 2)
                    have n23_ := rgI (qI S48_1102 p0 7)
                    have n24_ := rgI (if (qI S28_190 p0 7) < (if a23_189 < (1 : Int32) then (1 : Int32) else a23_189) then (if a23_189 < (1 : Int32) then (1 : Int32) else a23_189) else (qI S28_190 p0 7))
                    have n25_ := rgI a54_1131
                    have n26_ := rgI (fX8_targetCount S48_1102 (qO S48_1102 p0 4) x1)
                    omega
                  · have s1138_ := (g.hts y208_).2
                    have s1139_ := y207_.len9 (y207_.ref (g.hts y208_).1.1 y208_) (by decide)
                    have s1140_ := y207_.len9 (y207_.ref (g.hts y208_).1.2.1 y208_) (by decide)
                    have s1141_ := y207_.len9 (y207_.ref (g.hts y208_).1.2.2 y208_) (by decide)
                    have s1142_ := (g.unit (y207_.ref p1126_ y208_)).2
                    have s1143_ := (g.row (y207_.ref p1127_ y208_)).2
                    have n1_ := rgI x1
                    have n2_ := rgI a8_134
                    have n3_ := rgI (fX10_takes S (qO S p0 3) (qO S p0 4) x1)
                    have n4_ := rgI r10_135
                    have n5_ := rgI r19_162
                    have n6_ := rgI a23_189
                    have n9_ := rgI x2
                    have n9_ := t_subD (a := x2) (b := r10_135)
                    have n10_ := rgI (x2 - r10_135)
                    have n10_ := t_addD (a := (x2 - r10_135)) (b := r19_162)
                    have n11_ := rgI ((x2 - r10_135) + r19_162)
                    have n12_ := rgI a35_217
                    have n13_ := rgI (fX8_opAt S28_190 (qO S28_190 p0 4) x1)
                    have n14_ := rgI a39_218
                    have n15_ := rgI (fX6_goesOn S28_190 a35_217)
                    have n16_ := rgI (qI S28_190 p0 5)
                    have n17_ := rgI r27_190
                    have n19_ := li_1k
                    have n19_ := t_addD (a := x1) (b := (1 : Int32))
                    have n20_ := rgI (x1 + (1 : Int32))
                    have n21_ := rgI (qI S28_190 (qO S28_190 p0 4) 2)
                    have n22_ := rgI (qI S48_1102 p0 7)
                    have n23_ := rgI (if (qI S28_190 p0 7) < (if a23_189 < (1 : Int32) then (1 : Int32) else a23_189) then (if a23_189 < (1 : Int32) then (1 : Int32) else a23_189) else (qI S28_190 p0 7))
                    have n24_ := rgI a54_1131
                    have n25_ := rgI (fX8_targetCount S48_1102 (qO S48_1102 p0 4) x1)
                    omega
                  · have s1144_ := (g.hts y208_).2
                    have s1145_ := y207_.len9 (y207_.ref (g.hts y208_).1.1 y208_) (by decide)
                    have s1146_ := y207_.len9 (y207_.ref (g.hts y208_).1.2.1 y208_) (by decide)
                    have s1147_ := y207_.len9 (y207_.ref (g.hts y208_).1.2.2 y208_) (by decide)
                    have s1148_ := (g.unit (y207_.ref p1126_ y208_)).2
                    have s1149_ := (g.row (y207_.ref p1127_ y208_)).2
                    have n1_ := rgI x1
                    have n2_ := rgI a8_134
                    have n3_ := rgI (fX10_takes S (qO S p0 3) (qO S p0 4) x1)
                    have n4_ := rgI r10_135
                    have n5_ := rgI r19_162
                    have n6_ := rgI a23_189
                    have n9_ := rgI x2
                    have n9_ := t_subD (a := x2) (b := r10_135)
                    have n10_ := rgI (x2 - r10_135)
                    have n10_ := t_addD (a := (x2 - r10_135)) (b := r19_162)
                    have n11_ := rgI ((x2 - r10_135) + r19_162)
                    have n12_ := rgI a35_217
                    have n13_ := rgI (fX8_opAt S28_190 (qO S28_190 p0 4) x1)
                    have n14_ := rgI a39_218
                    have n15_ := rgI (fX6_goesOn S28_190 a35_217)
                    have n16_ := rgI (qI S28_190 p0 5)
                    have n17_ := rgI r27_190
                    have n19_ := li_1k
                    have n19_ := t_addD (a := x1) (b := (1 : Int32))
                    have n20_ := rgI (x1 + (1 : Int32))
                    have n21_ := rgI (qI S28_190 (qO S28_190 p0 4) 2)
                    have n22_ := rgI (qI S48_1102 p0 7)
                    have n23_ := rgI (if (qI S28_190 p0 7) < (if a23_189 < (1 : Int32) then (1 : Int32) else a23_189) then (if a23_189 < (1 : Int32) then (1 : Int32) else a23_189) else (qI S28_190 p0 7))
                    have n24_ := rgI a54_1131
                    have n25_ := rgI (fX8_targetCount S48_1102 (qO S48_1102 p0 4) x1)
                    omega
                  · have s1150_ := (g.hts y208_).2
                    have s1151_ := y207_.len9 (y207_.ref (g.hts y208_).1.1 y208_) (by decide)
                    have s1152_ := y207_.len9 (y207_.ref (g.hts y208_).1.2.1 y208_) (by decide)
                    have s1153_ := y207_.len9 (y207_.ref (g.hts y208_).1.2.2 y208_) (by decide)
                    have s1154_ := (g.unit (y207_.ref p1126_ y208_)).2
                    have s1155_ := (g.row (y207_.ref p1127_ y208_)).2
                    have n1_ := li_0k
                    have n2_ := rgI x1
                    have n3_ := rgI a8_134
                    have n4_ := rgI (fX10_takes S (qO S p0 3) (qO S p0 4) x1)
                    have n5_ := rgI r10_135
                    have n6_ := rgI r19_162
                    have n7_ := rgI a23_189
                    have n10_ := rgI x2
                    have n10_ := t_subD (a := x2) (b := r10_135)
                    have n11_ := rgI (x2 - r10_135)
                    have n11_ := t_addD (a := (x2 - r10_135)) (b := r19_162)
                    have n12_ := rgI ((x2 - r10_135) + r19_162)
                    have n13_ := rgI a35_217
                    have n14_ := rgI (fX8_opAt S28_190 (qO S28_190 p0 4) x1)
                    have n15_ := rgI a39_218
                    have n16_ := rgI (fX6_goesOn S28_190 a35_217)
                    have n17_ := rgI (qI S28_190 p0 5)
                    have n18_ := rgI r27_190
                    have n20_ := li_1k
                    have n20_ := t_addD (a := x1) (b := (1 : Int32))
                    have n21_ := rgI (x1 + (1 : Int32))
                    have n22_ := rgI (qI S28_190 (qO S28_190 p0 4) 2)
                    have n23_ := rgI (qI S48_1102 p0 7)
                    have n24_ := rgI (if (qI S28_190 p0 7) < (if a23_189 < (1 : Int32) then (1 : Int32) else a23_189) then (if a23_189 < (1 : Int32) then (1 : Int32) else a23_189) else (qI S28_190 p0 7))
                    have n25_ := rgI a54_1131
                    have n26_ := rgI (fX8_targetCount S48_1102 (qO S48_1102 p0 4) x1)
                    omega
                · intro y210_
                  refine ⟨_, frX4_comeTo y206_ (sgX4_comeTo y206_ g y210_ p1127_), ?_⟩
                  intro S90_1156 q211_ y212_ y213_
                  have t1157_ : (qI S90_1156 p0 7).toInt = (qI S48_1102 p0 7).toInt := congrArg Int32.toInt (q211_.2.kI (j := 7) y210_ (by decide) (by decide))
                  have t1158_ : (qI S90_1156 p0 5).toInt = (qI S48_1102 p0 5).toInt := congrArg Int32.toInt (q211_.2.kI (j := 5) y210_ (by decide) (by decide))
                  have t1159_ : (qN S90_1156 (qO S90_1156 p0 1) : Int) = (qN S48_1102 (qO S48_1102 p0 1) : Int) := q211_.2.kL (j := 1) y206_ y210_ (g.hts y210_).1.2.1 (by decide) (by decide)
                  have t1160_ : (qN S90_1156 (qO S90_1156 p0 0) : Int) = (qN S48_1102 (qO S48_1102 p0 0) : Int) := q211_.2.kL (j := 0) y206_ y210_ (g.hts y210_).1.1 (by decide) (by decide)
                  have t1161_ : (qN S90_1156 (qO S90_1156 p0 2) : Int) = (qN S48_1102 (qO S48_1102 p0 2) : Int) := q211_.2.kL (j := 2) y206_ y210_ (g.hts y210_).1.2.2 (by decide) (by decide)
                  have o1162_ : qO S90_1156 p0 3 = qO S48_1102 p0 3 := qO_eq (q211_.2.kO y210_ (by decide) (by decide))
                  have t1163_ : (qI S90_1156 (qO S90_1156 p0 3) 8).toInt = (qI S48_1102 (qO S48_1102 p0 3) 8).toInt := by rw [o1162_]; exact congrArg Int32.toInt (q211_.2.kI (j := 8) (y206_.ref p1126_ y210_) (by decide) (by decide))
                  have t1164_ : (qI S90_1156 (qO S90_1156 p0 3) 4).toInt = (qI S48_1102 (qO S48_1102 p0 3) 4).toInt := by rw [o1162_]; exact congrArg Int32.toInt (q211_.2.kI (j := 4) (y206_.ref p1126_ y210_) (by decide) (by decide))
                  have t1165_ : (qN S90_1156 (qO S90_1156 (qO S90_1156 p0 3) 13) : Int) = (qN S48_1102 (qO S48_1102 (qO S48_1102 p0 3) 13) : Int) := by rw [o1162_]; exact q211_.2.kL (j := 13) y206_ (y206_.ref p1126_ y210_) (g.unit (y206_.ref p1126_ y210_)).1.2.2.2.2.2.2.2.2 (by decide) (by decide)
                  have t1166_ : (qN S90_1156 (qO S90_1156 (qO S90_1156 p0 3) 9) : Int) = (qN S48_1102 (qO S48_1102 (qO S48_1102 p0 3) 9) : Int) := by rw [o1162_]; exact q211_.2.kL (j := 9) y206_ (y206_.ref p1126_ y210_) (g.unit (y206_.ref p1126_ y210_)).1.2.2.2.2.1 (by decide) (by decide)
                  have t1167_ : (qN S90_1156 (qO S90_1156 (qO S90_1156 p0 3) 5) : Int) = (qN S48_1102 (qO S48_1102 (qO S48_1102 p0 3) 5) : Int) := by rw [o1162_]; exact q211_.2.kL (j := 5) y206_ (y206_.ref p1126_ y210_) (g.unit (y206_.ref p1126_ y210_)).1.2.1 (by decide) (by decide)
                  have o1168_ : qO S90_1156 p0 4 = qO S48_1102 p0 4 := qO_eq (q211_.2.kO y210_ (by decide) (by decide))
                  have t1169_ : (qI S90_1156 (qO S90_1156 p0 4) 4).toInt = (qI S48_1102 (qO S48_1102 p0 4) 4).toInt := by rw [o1168_]; exact congrArg Int32.toInt (q211_.2.kI (j := 4) (y206_.ref p1127_ y210_) (by decide) (by decide))
                  have t1170_ : (qI S90_1156 (qO S90_1156 p0 4) 9).toInt = (qI S48_1102 (qO S48_1102 p0 4) 9).toInt := by rw [o1168_]; exact congrArg Int32.toInt (q211_.2.kI (j := 9) (y206_.ref p1127_ y210_) (by decide) (by decide))
                  have t1171_ : (qI S90_1156 (qO S90_1156 p0 4) 2).toInt = (qI S48_1102 (qO S48_1102 p0 4) 2).toInt := by rw [o1168_]; exact congrArg Int32.toInt (q211_.2.kI (j := 2) (y206_.ref p1127_ y210_) (by decide) (by decide))
                  have t1172_ : (qN S90_1156 (qO S90_1156 (qO S90_1156 p0 4) 1) : Int) = (qN S48_1102 (qO S48_1102 (qO S48_1102 p0 4) 1) : Int) := by rw [o1168_]; exact q211_.2.kL (j := 1) y206_ (y206_.ref p1127_ y210_) (g.row (y206_.ref p1127_ y210_)).1.2.1 (by decide) (by decide)
                  have t1173_ : (qN S90_1156 (qO S90_1156 (qO S90_1156 p0 4) 8) : Int) = (qN S48_1102 (qO S48_1102 (qO S48_1102 p0 4) 8) : Int) := by rw [o1168_]; exact q211_.2.kL (j := 8) y206_ (y206_.ref p1127_ y210_) (g.row (y206_.ref p1127_ y210_)).1.2.2.2.2.2.2 (by decide) (by decide)
                  have t1174_ : (qN S90_1156 (qO S90_1156 (qO S90_1156 p0 4) 7) : Int) = (qN S48_1102 (qO S48_1102 (qO S48_1102 p0 4) 7) : Int) := by rw [o1168_]; exact q211_.2.kL (j := 7) y206_ (y206_.ref p1127_ y210_) (g.row (y206_.ref p1127_ y210_)).1.2.2.2.2.2.1 (by decide) (by decide)
                  have t1175_ : (qN S90_1156 (qO S90_1156 (qO S90_1156 p0 4) 0) : Int) = (qN S48_1102 (qO S48_1102 (qO S48_1102 p0 4) 0) : Int) := by rw [o1168_]; exact q211_.2.kL (j := 0) y206_ (y206_.ref p1127_ y210_) (g.row (y206_.ref p1127_ y210_)).1.1 (by decide) (by decide)
                  have t1176_ : (qN S90_1156 (qO S90_1156 (qO S90_1156 p0 4) 6) : Int) = (qN S48_1102 (qO S48_1102 (qO S48_1102 p0 4) 6) : Int) := by rw [o1168_]; exact q211_.2.kL (j := 6) y206_ (y206_.ref p1127_ y210_) (g.row (y206_.ref p1127_ y210_)).1.2.2.2.2.1 (by decide) (by decide)
                  have t1177_ : (qN S90_1156 (qO S90_1156 (qO S90_1156 p0 4) 3) : Int) = (qN S48_1102 (qO S48_1102 (qO S48_1102 p0 4) 3) : Int) := by rw [o1168_]; exact q211_.2.kL (j := 3) y206_ (y206_.ref p1127_ y210_) (g.row (y206_.ref p1127_ y210_)).1.2.2.1 (by decide) (by decide)
                  have t1178_ : (qN S90_1156 (qO S90_1156 (qO S90_1156 p0 4) 5) : Int) = (qN S48_1102 (qO S48_1102 (qO S48_1102 p0 4) 5) : Int) := by rw [o1168_]; exact q211_.2.kL (j := 5) y206_ (y206_.ref p1127_ y210_) (g.row (y206_.ref p1127_ y210_)).1.2.2.2.1 (by decide) (by decide)
                  have p1179_ : qR S90_1156 p0 3 = some (qO S90_1156 p0 3) := q211_.2.kP y210_ p1126_ (by decide) (by decide)
                  have p1180_ : qR S90_1156 p0 4 = some (qO S90_1156 p0 4) := q211_.2.kP y210_ p1127_ (by decide) (by decide)
                  have k1181_ : qT S90_1156 p0 = 44 := q211_.2.1.T y210_ (by decide)
                  have g : ShC B S90_1156 := q211_.1.1
                  unfold w_X4_spread_J150
                  intro y214_ y215_ y216_
                  refine ⟨?_, ?_⟩
                  · exact p1180_
                  refine ⟨?_, ?_⟩
                  · exact (dd_X8_targetCount y214_ g (y214_.ref p1180_ y215_))
                  intro a54_1182 ea54_1182 
                  have ga54_1182 := congrArg Int32.toInt ea54_1182
                  refine ⟨(2147483648 - (0 : Int32).toInt).toNat + 1, ?_⟩
                  refine sg_X4_spread_L163  _ g p1179_ p1180_ ?_ ?_ ?_ ?_
                  · have s1183_ := (g.hts y215_).2
                    have s1184_ := y214_.len9 (y214_.ref (g.hts y215_).1.1 y215_) (by decide)
                    have s1185_ := y214_.len9 (y214_.ref (g.hts y215_).1.2.1 y215_) (by decide)
                    have s1186_ := y214_.len9 (y214_.ref (g.hts y215_).1.2.2 y215_) (by decide)
                    have s1187_ := (g.unit (y214_.ref p1179_ y215_)).2
                    have s1188_ := (g.row (y214_.ref p1180_ y215_)).2
                    have n1_ := li_0k
                    have n2_ := rgI x1
                    have n3_ := rgI a8_134
                    have n4_ := rgI (fX10_takes S (qO S p0 3) (qO S p0 4) x1)
                    have n5_ := rgI r10_135
                    have n6_ := rgI r19_162
                    have n7_ := rgI a23_189
                    have n10_ := rgI x2
                    have n10_ := t_subD (a := x2) (b := r10_135)
                    have n11_ := rgI (x2 - r10_135)
                    have n11_ := t_addD (a := (x2 - r10_135)) (b := r19_162)
                    have n12_ := rgI ((x2 - r10_135) + r19_162)
                    have n13_ := rgI a35_217
                    have n14_ := rgI (fX8_opAt S28_190 (qO S28_190 p0 4) x1)
                    have n15_ := rgI a39_218
                    have n16_ := rgI (fX6_goesOn S28_190 a35_217)
                    have n17_ := rgI (qI S28_190 p0 5)
                    have n18_ := rgI r27_190
                    have n20_ := li_1k
                    have n20_ := t_addD (a := x1) (b := (1 : Int32))
                    have n21_ := rgI (x1 + (1 : Int32))
                    have n22_ := rgI (qI S28_190 (qO S28_190 p0 4) 2)
                    have n23_ := rgI (qI S48_1102 p0 7)
                    have n24_ := rgI (if (qI S28_190 p0 7) < (if a23_189 < (1 : Int32) then (1 : Int32) else a23_189) then (if a23_189 < (1 : Int32) then (1 : Int32) else a23_189) else (qI S28_190 p0 7))
                    have n25_ := rgI a54_1182
                    have n26_ := rgI (fX8_targetCount S90_1156 (qO S90_1156 p0 4) x1)
                    omega
                  · have s1189_ := (g.hts y215_).2
                    have s1190_ := y214_.len9 (y214_.ref (g.hts y215_).1.1 y215_) (by decide)
                    have s1191_ := y214_.len9 (y214_.ref (g.hts y215_).1.2.1 y215_) (by decide)
                    have s1192_ := y214_.len9 (y214_.ref (g.hts y215_).1.2.2 y215_) (by decide)
                    have s1193_ := (g.unit (y214_.ref p1179_ y215_)).2
                    have s1194_ := (g.row (y214_.ref p1180_ y215_)).2
                    have n1_ := rgI x1
                    have n2_ := rgI a8_134
                    have n3_ := rgI (fX10_takes S (qO S p0 3) (qO S p0 4) x1)
                    have n4_ := rgI r10_135
                    have n5_ := rgI r19_162
                    have n6_ := rgI a23_189
                    have n9_ := rgI x2
                    have n9_ := t_subD (a := x2) (b := r10_135)
                    have n10_ := rgI (x2 - r10_135)
                    have n10_ := t_addD (a := (x2 - r10_135)) (b := r19_162)
                    have n11_ := rgI ((x2 - r10_135) + r19_162)
                    have n12_ := rgI a35_217
                    have n13_ := rgI (fX8_opAt S28_190 (qO S28_190 p0 4) x1)
                    have n14_ := rgI a39_218
                    have n15_ := rgI (fX6_goesOn S28_190 a35_217)
                    have n16_ := rgI (qI S28_190 p0 5)
                    have n17_ := rgI r27_190
                    have n19_ := li_1k
                    have n19_ := t_addD (a := x1) (b := (1 : Int32))
                    have n20_ := rgI (x1 + (1 : Int32))
                    have n21_ := rgI (qI S28_190 (qO S28_190 p0 4) 2)
                    have n22_ := rgI (qI S48_1102 p0 7)
                    have n23_ := rgI (if (qI S28_190 p0 7) < (if a23_189 < (1 : Int32) then (1 : Int32) else a23_189) then (if a23_189 < (1 : Int32) then (1 : Int32) else a23_189) else (qI S28_190 p0 7))
                    have n24_ := rgI a54_1182
                    have n25_ := rgI (fX8_targetCount S90_1156 (qO S90_1156 p0 4) x1)
                    omega
                  · have s1195_ := (g.hts y215_).2
                    have s1196_ := y214_.len9 (y214_.ref (g.hts y215_).1.1 y215_) (by decide)
                    have s1197_ := y214_.len9 (y214_.ref (g.hts y215_).1.2.1 y215_) (by decide)
                    have s1198_ := y214_.len9 (y214_.ref (g.hts y215_).1.2.2 y215_) (by decide)
                    have s1199_ := (g.unit (y214_.ref p1179_ y215_)).2
                    have s1200_ := (g.row (y214_.ref p1180_ y215_)).2
                    have n1_ := rgI x1
                    have n2_ := rgI a8_134
                    have n3_ := rgI (fX10_takes S (qO S p0 3) (qO S p0 4) x1)
                    have n4_ := rgI r10_135
                    have n5_ := rgI r19_162
                    have n6_ := rgI a23_189
                    have n9_ := rgI x2
                    have n9_ := t_subD (a := x2) (b := r10_135)
                    have n10_ := rgI (x2 - r10_135)
                    have n10_ := t_addD (a := (x2 - r10_135)) (b := r19_162)
                    have n11_ := rgI ((x2 - r10_135) + r19_162)
                    have n12_ := rgI a35_217
                    have n13_ := rgI (fX8_opAt S28_190 (qO S28_190 p0 4) x1)
                    have n14_ := rgI a39_218
                    have n15_ := rgI (fX6_goesOn S28_190 a35_217)
                    have n16_ := rgI (qI S28_190 p0 5)
                    have n17_ := rgI r27_190
                    have n19_ := li_1k
                    have n19_ := t_addD (a := x1) (b := (1 : Int32))
                    have n20_ := rgI (x1 + (1 : Int32))
                    have n21_ := rgI (qI S28_190 (qO S28_190 p0 4) 2)
                    have n22_ := rgI (qI S48_1102 p0 7)
                    have n23_ := rgI (if (qI S28_190 p0 7) < (if a23_189 < (1 : Int32) then (1 : Int32) else a23_189) then (if a23_189 < (1 : Int32) then (1 : Int32) else a23_189) else (qI S28_190 p0 7))
                    have n24_ := rgI a54_1182
                    have n25_ := rgI (fX8_targetCount S90_1156 (qO S90_1156 p0 4) x1)
                    omega
                  · have s1201_ := (g.hts y215_).2
                    have s1202_ := y214_.len9 (y214_.ref (g.hts y215_).1.1 y215_) (by decide)
                    have s1203_ := y214_.len9 (y214_.ref (g.hts y215_).1.2.1 y215_) (by decide)
                    have s1204_ := y214_.len9 (y214_.ref (g.hts y215_).1.2.2 y215_) (by decide)
                    have s1205_ := (g.unit (y214_.ref p1179_ y215_)).2
                    have s1206_ := (g.row (y214_.ref p1180_ y215_)).2
                    have n1_ := li_0k
                    have n2_ := rgI x1
                    have n3_ := rgI a8_134
                    have n4_ := rgI (fX10_takes S (qO S p0 3) (qO S p0 4) x1)
                    have n5_ := rgI r10_135
                    have n6_ := rgI r19_162
                    have n7_ := rgI a23_189
                    have n10_ := rgI x2
                    have n10_ := t_subD (a := x2) (b := r10_135)
                    have n11_ := rgI (x2 - r10_135)
                    have n11_ := t_addD (a := (x2 - r10_135)) (b := r19_162)
                    have n12_ := rgI ((x2 - r10_135) + r19_162)
                    have n13_ := rgI a35_217
                    have n14_ := rgI (fX8_opAt S28_190 (qO S28_190 p0 4) x1)
                    have n15_ := rgI a39_218
                    have n16_ := rgI (fX6_goesOn S28_190 a35_217)
                    have n17_ := rgI (qI S28_190 p0 5)
                    have n18_ := rgI r27_190
                    have n20_ := li_1k
                    have n20_ := t_addD (a := x1) (b := (1 : Int32))
                    have n21_ := rgI (x1 + (1 : Int32))
                    have n22_ := rgI (qI S28_190 (qO S28_190 p0 4) 2)
                    have n23_ := rgI (qI S48_1102 p0 7)
                    have n24_ := rgI (if (qI S28_190 p0 7) < (if a23_189 < (1 : Int32) then (1 : Int32) else a23_189) then (if a23_189 < (1 : Int32) then (1 : Int32) else a23_189) else (qI S28_190 p0 7))
                    have n25_ := rgI a54_1182
                    have n26_ := rgI (fX8_targetCount S90_1156 (qO S90_1156 p0 4) x1)
                    omega
            · unfold w_X4_spread_J102
              intro y217_ y218_
              refine ⟨?_, ?_⟩
              · exact (g.hts y218_).1.2.2
              refine ⟨?_, ?_⟩
              · have s1207_ := (g.hts y218_).2
                have s1208_ := y217_.len9 (y217_.ref (g.hts y218_).1.1 y218_) (by decide)
                have s1209_ := y217_.len9 (y217_.ref (g.hts y218_).1.2.1 y218_) (by decide)
                have s1210_ := y217_.len9 (y217_.ref (g.hts y218_).1.2.2 y218_) (by decide)
                have s1211_ := (g.unit (y217_.ref p214_ y218_)).2
                have s1212_ := (g.row (y217_.ref p215_ y218_)).2
                have n1_ := rgI x1
                have n2_ := rgI a8_134
                have n3_ := rgI (fX10_takes S (qO S p0 3) (qO S p0 4) x1)
                have n4_ := rgI r10_135
                have n5_ := rgI r19_162
                have n6_ := rgI a23_189
                have n9_ := rgI x2
                have n9_ := t_subD (a := x2) (b := r10_135)
                have n10_ := rgI (x2 - r10_135)
                have n10_ := t_addD (a := (x2 - r10_135)) (b := r19_162)
                have n11_ := rgI ((x2 - r10_135) + r19_162)
                have n12_ := rgI a35_217
                have n13_ := rgI (fX8_opAt S28_190 (qO S28_190 p0 4) x1)
                have n14_ := rgI a39_218
                have n15_ := rgI (fX6_goesOn S28_190 a35_217)
                have n16_ := rgI (qI S28_190 p0 5)
                have n17_ := rgI r27_190
                have n19_ := li_1k
                have n19_ := t_addD (a := x1) (b := (1 : Int32))
                have n20_ := rgI (x1 + (1 : Int32))
                have n21_ := rgI (qI S28_190 (qO S28_190 p0 4) 2)
                omega
              intro S43_1213 eS43_1213 y219_ y220_
              have f1214_ : cfr [304] [] S28_190 S43_1213 := by rw [eS43_1213]; exact cfr.aI y219_ (by decide)
              have t1215_ : (qI S43_1213 p0 7).toInt = (qI S28_190 p0 7).toInt := congrArg Int32.toInt (f1214_.kI (j := 7) y218_ (by decide) (by decide))
              have t1216_ : (qI S43_1213 p0 6).toInt = (qI S28_190 p0 6).toInt := congrArg Int32.toInt (f1214_.kI (j := 6) y218_ (by decide) (by decide))
              have t1217_ : (qI S43_1213 p0 5).toInt = (qI S28_190 p0 5).toInt := congrArg Int32.toInt (f1214_.kI (j := 5) y218_ (by decide) (by decide))
              have t1218_ : (qN S43_1213 (qO S43_1213 p0 1) : Int) = (qN S28_190 (qO S28_190 p0 1) : Int) := f1214_.kL (j := 1) y217_ y218_ (g.hts y218_).1.2.1 (by decide) (by decide)
              have t1219_ : (qN S43_1213 (qO S43_1213 p0 0) : Int) = (qN S28_190 (qO S28_190 p0 0) : Int) := f1214_.kL (j := 0) y217_ y218_ (g.hts y218_).1.1 (by decide) (by decide)
              have t1220_ : (qN S43_1213 (qO S43_1213 p0 2) : Int) = (qN S28_190 (qO S28_190 p0 2) : Int) := f1214_.kL (j := 2) y217_ y218_ (g.hts y218_).1.2.2 (by decide) (by decide)
              have o1221_ : qO S43_1213 p0 3 = qO S28_190 p0 3 := qO_eq (f1214_.kO y218_ (by decide) (by decide))
              have t1222_ : (qI S43_1213 (qO S43_1213 p0 3) 8).toInt = (qI S28_190 (qO S28_190 p0 3) 8).toInt := by rw [o1221_]; exact congrArg Int32.toInt (f1214_.kI (j := 8) (y217_.ref p214_ y218_) (by decide) (by decide))
              have t1223_ : (qI S43_1213 (qO S43_1213 p0 3) 4).toInt = (qI S28_190 (qO S28_190 p0 3) 4).toInt := by rw [o1221_]; exact congrArg Int32.toInt (f1214_.kI (j := 4) (y217_.ref p214_ y218_) (by decide) (by decide))
              have t1224_ : (qN S43_1213 (qO S43_1213 (qO S43_1213 p0 3) 13) : Int) = (qN S28_190 (qO S28_190 (qO S28_190 p0 3) 13) : Int) := by rw [o1221_]; exact f1214_.kL (j := 13) y217_ (y217_.ref p214_ y218_) (g.unit (y217_.ref p214_ y218_)).1.2.2.2.2.2.2.2.2 (by decide) (by decide)
              have t1225_ : (qN S43_1213 (qO S43_1213 (qO S43_1213 p0 3) 9) : Int) = (qN S28_190 (qO S28_190 (qO S28_190 p0 3) 9) : Int) := by rw [o1221_]; exact f1214_.kL (j := 9) y217_ (y217_.ref p214_ y218_) (g.unit (y217_.ref p214_ y218_)).1.2.2.2.2.1 (by decide) (by decide)
              have t1226_ : (qN S43_1213 (qO S43_1213 (qO S43_1213 p0 3) 5) : Int) = (qN S28_190 (qO S28_190 (qO S28_190 p0 3) 5) : Int) := by rw [o1221_]; exact f1214_.kL (j := 5) y217_ (y217_.ref p214_ y218_) (g.unit (y217_.ref p214_ y218_)).1.2.1 (by decide) (by decide)
              have o1227_ : qO S43_1213 p0 4 = qO S28_190 p0 4 := qO_eq (f1214_.kO y218_ (by decide) (by decide))
              have t1228_ : (qI S43_1213 (qO S43_1213 p0 4) 4).toInt = (qI S28_190 (qO S28_190 p0 4) 4).toInt := by rw [o1227_]; exact congrArg Int32.toInt (f1214_.kI (j := 4) (y217_.ref p215_ y218_) (by decide) (by decide))
              have t1229_ : (qI S43_1213 (qO S43_1213 p0 4) 9).toInt = (qI S28_190 (qO S28_190 p0 4) 9).toInt := by rw [o1227_]; exact congrArg Int32.toInt (f1214_.kI (j := 9) (y217_.ref p215_ y218_) (by decide) (by decide))
              have t1230_ : (qI S43_1213 (qO S43_1213 p0 4) 2).toInt = (qI S28_190 (qO S28_190 p0 4) 2).toInt := by rw [o1227_]; exact congrArg Int32.toInt (f1214_.kI (j := 2) (y217_.ref p215_ y218_) (by decide) (by decide))
              have t1231_ : (qN S43_1213 (qO S43_1213 (qO S43_1213 p0 4) 1) : Int) = (qN S28_190 (qO S28_190 (qO S28_190 p0 4) 1) : Int) := by rw [o1227_]; exact f1214_.kL (j := 1) y217_ (y217_.ref p215_ y218_) (g.row (y217_.ref p215_ y218_)).1.2.1 (by decide) (by decide)
              have t1232_ : (qN S43_1213 (qO S43_1213 (qO S43_1213 p0 4) 8) : Int) = (qN S28_190 (qO S28_190 (qO S28_190 p0 4) 8) : Int) := by rw [o1227_]; exact f1214_.kL (j := 8) y217_ (y217_.ref p215_ y218_) (g.row (y217_.ref p215_ y218_)).1.2.2.2.2.2.2 (by decide) (by decide)
              have t1233_ : (qN S43_1213 (qO S43_1213 (qO S43_1213 p0 4) 7) : Int) = (qN S28_190 (qO S28_190 (qO S28_190 p0 4) 7) : Int) := by rw [o1227_]; exact f1214_.kL (j := 7) y217_ (y217_.ref p215_ y218_) (g.row (y217_.ref p215_ y218_)).1.2.2.2.2.2.1 (by decide) (by decide)
              have t1234_ : (qN S43_1213 (qO S43_1213 (qO S43_1213 p0 4) 0) : Int) = (qN S28_190 (qO S28_190 (qO S28_190 p0 4) 0) : Int) := by rw [o1227_]; exact f1214_.kL (j := 0) y217_ (y217_.ref p215_ y218_) (g.row (y217_.ref p215_ y218_)).1.1 (by decide) (by decide)
              have t1235_ : (qN S43_1213 (qO S43_1213 (qO S43_1213 p0 4) 6) : Int) = (qN S28_190 (qO S28_190 (qO S28_190 p0 4) 6) : Int) := by rw [o1227_]; exact f1214_.kL (j := 6) y217_ (y217_.ref p215_ y218_) (g.row (y217_.ref p215_ y218_)).1.2.2.2.2.1 (by decide) (by decide)
              have t1236_ : (qN S43_1213 (qO S43_1213 (qO S43_1213 p0 4) 3) : Int) = (qN S28_190 (qO S28_190 (qO S28_190 p0 4) 3) : Int) := by rw [o1227_]; exact f1214_.kL (j := 3) y217_ (y217_.ref p215_ y218_) (g.row (y217_.ref p215_ y218_)).1.2.2.1 (by decide) (by decide)
              have t1237_ : (qN S43_1213 (qO S43_1213 (qO S43_1213 p0 4) 5) : Int) = (qN S28_190 (qO S28_190 (qO S28_190 p0 4) 5) : Int) := by rw [o1227_]; exact f1214_.kL (j := 5) y217_ (y217_.ref p215_ y218_) (g.row (y217_.ref p215_ y218_)).1.2.2.2.1 (by decide) (by decide)
              have p1238_ : qR S43_1213 p0 3 = some (qO S43_1213 p0 3) := f1214_.kP y218_ p214_ (by decide) (by decide)
              have p1239_ : qR S43_1213 p0 4 = some (qO S43_1213 p0 4) := f1214_.kP y218_ p215_ (by decide) (by decide)
              have k1240_ : qT S43_1213 p0 = 44 := f1214_.1.T y218_ (by decide)
              have g : ShC B S43_1213 := ShC.ws y217_ g f1214_ (by rw [eS43_1213]; rfl) (by rw [eS43_1213]; rfl) (by rw [eS43_1213]; rfl) rfl rfl
              exact ⟨g, trivial⟩
