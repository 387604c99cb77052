set_option maxRecDepth 100000 in
theorem sg_X4_seek_L109 {B : Nat × Nat} {k67 : MS → Nat → Int32 → Int32 → Prop} {N67 : Nat} {N45 : Nat} (hk67 : ∀ (U67 : MS) (v67_0 : Nat) (v67_4 : Int32) (v67_5 : Int32), ShC B U67 → qR U67 v67_0 3 = some (qO U67 v67_0 3) → qR U67 v67_0 4 = some (qO U67 v67_0 4) → 0 ≤ v67_5.toInt → v67_4.toInt < 2147483647 → 2147483648 - v67_4.toInt ≤ N45 → 0 ≤ v67_4.toInt → 2147483648 - v67_5.toInt < N67 → k67 U67 v67_0 v67_4 v67_5) : ∀ (n : Nat) {U109 : MS} {v109_0 : Nat} {v109_4 : Int32} {v109_5 : Int32} {v109_6 : Int32} {v109_7 : Int32}, ShC B U109 → qR U109 v109_0 3 = some (qO U109 v109_0 3) → qR U109 v109_0 4 = some (qO U109 v109_0 4) → 0 ≤ v109_7.toInt → v109_5.toInt < 2147483647 → 2147483648 - v109_5.toInt ≤ N67 → 0 ≤ v109_5.toInt → v109_4.toInt < 2147483647 → 2147483648 - v109_4.toInt ≤ N45 → 0 ≤ v109_4.toInt → v109_5.toInt < (qN U109 (qO U109 v109_0 0) : Int) → 2147483648 - v109_7.toInt < n → w_X4_seek_L109 (fun u => ShC B u ∧ (True)) k67 n U109 v109_0 v109_4 v109_5 v109_6 v109_7 := by
  intro n
  induction n with
  | zero => intro U109 v109_0 v109_4 v109_5 v109_6 v109_7 g h0_ h1_ j0_ j1_ j2_ j3_ j4_ j5_ j6_ j7_ hm_; exfalso; have := rgI v109_4; have := rgI v109_5; have := rgI v109_6; have := rgI v109_7; omega
  | succ n ih109 =>
    intro U109 v109_0 v109_4 v109_5 v109_6 v109_7 g h0_ h1_ j0_ j1_ j2_ j3_ j4_ j5_ j6_ j7_ hm_
    unfold w_X4_seek_L109
    intro y1_ y2_
    refine ⟨fun c0_ => ?_, fun c0_ => ?_⟩
    · unfold w_X4_seek_J148
      intro y3_ y4_
      intro a37_1 ea37_1 
      have ga37_1 := congrArg Int32.toInt ea37_1
      refine hk67 _ _ _ _ g h0_ h1_ ?_ ?_ ?_ ?_ ?_
      · have s2_ := (g.hts y4_).2
        have s3_ := y3_.len9 (y3_.ref (g.hts y4_).1.1 y4_) (by decide)
        have s4_ := y3_.len9 (y3_.ref (g.hts y4_).1.2.1 y4_) (by decide)
        have s5_ := y3_.len9 (y3_.ref (g.hts y4_).1.2.2 y4_) (by decide)
        have n1_ := rgI a37_1
        have n2_ := rgI v109_7
        have n3_ := rgI v109_5
        have n4_ := rgI v109_4
        have n5_ := rgI ((v109_6.toUInt32 >>> (v109_7.toUInt32 &&& Int32.toUInt32 31)).toInt32)
        have n7_ := lo_1k
        have n7_ := t_addD (a := v109_5) (b := Int32.ofInt 1)
        have n8_ := rgI (v109_5 + Int32.ofInt 1)
        omega
      · have s6_ := (g.hts y4_).2
        have s7_ := y3_.len9 (y3_.ref (g.hts y4_).1.1 y4_) (by decide)
        have s8_ := y3_.len9 (y3_.ref (g.hts y4_).1.2.1 y4_) (by decide)
        have s9_ := y3_.len9 (y3_.ref (g.hts y4_).1.2.2 y4_) (by decide)
        have n1_ := rgI v109_4
        have n2_ := rgI v109_7
        have n3_ := rgI v109_5
        have n4_ := rgI ((v109_6.toUInt32 >>> (v109_7.toUInt32 &&& Int32.toUInt32 31)).toInt32)
        have n5_ := rgI a37_1
        have n7_ := lo_1k
        have n7_ := t_addD (a := v109_5) (b := Int32.ofInt 1)
        have n8_ := rgI (v109_5 + Int32.ofInt 1)
        omega
      · have s10_ := (g.hts y4_).2
        have s11_ := y3_.len9 (y3_.ref (g.hts y4_).1.1 y4_) (by decide)
        have s12_ := y3_.len9 (y3_.ref (g.hts y4_).1.2.1 y4_) (by decide)
        have s13_ := y3_.len9 (y3_.ref (g.hts y4_).1.2.2 y4_) (by decide)
        have n1_ := rgI v109_4
        have n2_ := rgI v109_7
        have n3_ := rgI v109_5
        have n4_ := rgI ((v109_6.toUInt32 >>> (v109_7.toUInt32 &&& Int32.toUInt32 31)).toInt32)
        have n5_ := rgI a37_1
        have n7_ := lo_1k
        have n7_ := t_addD (a := v109_5) (b := Int32.ofInt 1)
        have n8_ := rgI (v109_5 + Int32.ofInt 1)
        omega
      · have s14_ := (g.hts y4_).2
        have s15_ := y3_.len9 (y3_.ref (g.hts y4_).1.1 y4_) (by decide)
        have s16_ := y3_.len9 (y3_.ref (g.hts y4_).1.2.1 y4_) (by decide)
        have s17_ := y3_.len9 (y3_.ref (g.hts y4_).1.2.2 y4_) (by decide)
        have n1_ := rgI v109_4
        have n2_ := rgI v109_7
        have n3_ := rgI v109_5
        have n4_ := rgI ((v109_6.toUInt32 >>> (v109_7.toUInt32 &&& Int32.toUInt32 31)).toInt32)
        have n5_ := rgI a37_1
        have n7_ := lo_1k
        have n7_ := t_addD (a := v109_5) (b := Int32.ofInt 1)
        have n8_ := rgI (v109_5 + Int32.ofInt 1)
        omega
      · have s18_ := (g.hts y4_).2
        have s19_ := y3_.len9 (y3_.ref (g.hts y4_).1.1 y4_) (by decide)
        have s20_ := y3_.len9 (y3_.ref (g.hts y4_).1.2.1 y4_) (by decide)
        have s21_ := y3_.len9 (y3_.ref (g.hts y4_).1.2.2 y4_) (by decide)
        have n1_ := rgI a37_1
        have n2_ := rgI v109_7
        have n3_ := rgI v109_5
        have n4_ := rgI v109_4
        have n5_ := rgI ((v109_6.toUInt32 >>> (v109_7.toUInt32 &&& Int32.toUInt32 31)).toInt32)
        have n7_ := lo_1k
        have n7_ := t_addD (a := v109_5) (b := Int32.ofInt 1)
        have n8_ := rgI (v109_5 + Int32.ofInt 1)
        omega
    · refine ⟨fun c22_ => ?_, fun c22_ => ?_⟩
      · unfold w_X4_seek_J148
        intro y5_ y6_
        intro a37_23 ea37_23 
        have ga37_23 := congrArg Int32.toInt ea37_23
        refine hk67 _ _ _ _ g h0_ h1_ ?_ ?_ ?_ ?_ ?_
        · have s24_ := (g.hts y6_).2
          have s25_ := y5_.len9 (y5_.ref (g.hts y6_).1.1 y6_) (by decide)
          have s26_ := y5_.len9 (y5_.ref (g.hts y6_).1.2.1 y6_) (by decide)
          have s27_ := y5_.len9 (y5_.ref (g.hts y6_).1.2.2 y6_) (by decide)
          have n1_ := rgI a37_23
          have n2_ := rgI v109_7
          have n3_ := rgI v109_5
          have n4_ := rgI v109_4
          have n5_ := rgI ((v109_6.toUInt32 >>> (v109_7.toUInt32 &&& Int32.toUInt32 31)).toInt32)
          have n7_ := lo_1k
          have n7_ := t_addD (a := v109_5) (b := Int32.ofInt 1)
          have n8_ := rgI (v109_5 + Int32.ofInt 1)
          omega
        · have s28_ := (g.hts y6_).2
          have s29_ := y5_.len9 (y5_.ref (g.hts y6_).1.1 y6_) (by decide)
          have s30_ := y5_.len9 (y5_.ref (g.hts y6_).1.2.1 y6_) (by decide)
          have s31_ := y5_.len9 (y5_.ref (g.hts y6_).1.2.2 y6_) (by decide)
          have n1_ := rgI v109_4
          have n2_ := rgI v109_7
          have n3_ := rgI v109_5
          have n4_ := rgI ((v109_6.toUInt32 >>> (v109_7.toUInt32 &&& Int32.toUInt32 31)).toInt32)
          have n5_ := rgI a37_23
          have n7_ := lo_1k
          have n7_ := t_addD (a := v109_5) (b := Int32.ofInt 1)
          have n8_ := rgI (v109_5 + Int32.ofInt 1)
          omega
        · have s32_ := (g.hts y6_).2
          have s33_ := y5_.len9 (y5_.ref (g.hts y6_).1.1 y6_) (by decide)
          have s34_ := y5_.len9 (y5_.ref (g.hts y6_).1.2.1 y6_) (by decide)
          have s35_ := y5_.len9 (y5_.ref (g.hts y6_).1.2.2 y6_) (by decide)
          have n1_ := rgI v109_4
          have n2_ := rgI v109_7
          have n3_ := rgI v109_5
          have n4_ := rgI ((v109_6.toUInt32 >>> (v109_7.toUInt32 &&& Int32.toUInt32 31)).toInt32)
          have n5_ := rgI a37_23
          have n7_ := lo_1k
          have n7_ := t_addD (a := v109_5) (b := Int32.ofInt 1)
          have n8_ := rgI (v109_5 + Int32.ofInt 1)
          omega
        · have s36_ := (g.hts y6_).2
          have s37_ := y5_.len9 (y5_.ref (g.hts y6_).1.1 y6_) (by decide)
          have s38_ := y5_.len9 (y5_.ref (g.hts y6_).1.2.1 y6_) (by decide)
          have s39_ := y5_.len9 (y5_.ref (g.hts y6_).1.2.2 y6_) (by decide)
          have n1_ := rgI v109_4
          have n2_ := rgI v109_7
          have n3_ := rgI v109_5
          have n4_ := rgI ((v109_6.toUInt32 >>> (v109_7.toUInt32 &&& Int32.toUInt32 31)).toInt32)
          have n5_ := rgI a37_23
          have n7_ := lo_1k
          have n7_ := t_addD (a := v109_5) (b := Int32.ofInt 1)
          have n8_ := rgI (v109_5 + Int32.ofInt 1)
          omega
        · have s40_ := (g.hts y6_).2
          have s41_ := y5_.len9 (y5_.ref (g.hts y6_).1.1 y6_) (by decide)
          have s42_ := y5_.len9 (y5_.ref (g.hts y6_).1.2.1 y6_) (by decide)
          have s43_ := y5_.len9 (y5_.ref (g.hts y6_).1.2.2 y6_) (by decide)
          have n1_ := rgI a37_23
          have n2_ := rgI v109_7
          have n3_ := rgI v109_5
          have n4_ := rgI v109_4
          have n5_ := rgI ((v109_6.toUInt32 >>> (v109_7.toUInt32 &&& Int32.toUInt32 31)).toInt32)
          have n7_ := lo_1k
          have n7_ := t_addD (a := v109_5) (b := Int32.ofInt 1)
          have n8_ := rgI (v109_5 + Int32.ofInt 1)
          omega
      · refine ⟨fun c44_ => ?_, fun c44_ => ?_⟩
        · unfold w_X4_seek_J142
          intro y7_ y8_
          intro a42_45 ea42_45 
          have ga42_45 := congrArg Int32.toInt ea42_45
          refine ih109 g h0_ h1_ ?_ ?_ ?_ ?_ ?_ ?_ ?_ ?_ ?_
          · have s46_ := (g.hts y8_).2
            have s47_ := y7_.len9 (y7_.ref (g.hts y8_).1.1 y8_) (by decide)
            have s48_ := y7_.len9 (y7_.ref (g.hts y8_).1.2.1 y8_) (by decide)
            have s49_ := y7_.len9 (y7_.ref (g.hts y8_).1.2.2 y8_) (by decide)
            have n1_ := rgI a42_45
            have n2_ := rgI v109_7
            have n3_ := rgI v109_5
            have n4_ := rgI v109_4
            have n5_ := rgI ((v109_6.toUInt32 >>> (v109_7.toUInt32 &&& Int32.toUInt32 31)).toInt32)
            have n6_ := rgI ((v109_6 >>> (v109_7 &&& 31)) &&& (1 : Int32))
            have n8_ := lo_1k
            have n8_ := t_addD (a := v109_7) (b := Int32.ofInt 1)
            have n9_ := rgI (v109_7 + Int32.ofInt 1)
            omega
          · have s50_ := (g.hts y8_).2
            have s51_ := y7_.len9 (y7_.ref (g.hts y8_).1.1 y8_) (by decide)
            have s52_ := y7_.len9 (y7_.ref (g.hts y8_).1.2.1 y8_) (by decide)
            have s53_ := y7_.len9 (y7_.ref (g.hts y8_).1.2.2 y8_) (by decide)
            have n1_ := rgI v109_5
            have n2_ := rgI v109_7
            have n3_ := rgI v109_4
            have n4_ := rgI ((v109_6.toUInt32 >>> (v109_7.toUInt32 &&& Int32.toUInt32 31)).toInt32)
            have n5_ := rgI ((v109_6 >>> (v109_7 &&& 31)) &&& (1 : Int32))
            have n6_ := rgI a42_45
            have n8_ := lo_1k
            have n8_ := t_addD (a := v109_7) (b := Int32.ofInt 1)
            have n9_ := rgI (v109_7 + Int32.ofInt 1)
            omega
          · have s54_ := (g.hts y8_).2
            have s55_ := y7_.len9 (y7_.ref (g.hts y8_).1.1 y8_) (by decide)
            have s56_ := y7_.len9 (y7_.ref (g.hts y8_).1.2.1 y8_) (by decide)
            have s57_ := y7_.len9 (y7_.ref (g.hts y8_).1.2.2 y8_) (by decide)
            have n1_ := rgI v109_5
            have n2_ := rgI v109_7
            have n3_ := rgI v109_4
            have n4_ := rgI ((v109_6.toUInt32 >>> (v109_7.toUInt32 &&& Int32.toUInt32 31)).toInt32)
            have n5_ := rgI ((v109_6 >>> (v109_7 &&& 31)) &&& (1 : Int32))
            have n6_ := rgI a42_45
            have n8_ := lo_1k
            have n8_ := t_addD (a := v109_7) (b := Int32.ofInt 1)
            have n9_ := rgI (v109_7 + Int32.ofInt 1)
            omega
          · have s58_ := (g.hts y8_).2
            have s59_ := y7_.len9 (y7_.ref (g.hts y8_).1.1 y8_) (by decide)
            have s60_ := y7_.len9 (y7_.ref (g.hts y8_).1.2.1 y8_) (by decide)
            have s61_ := y7_.len9 (y7_.ref (g.hts y8_).1.2.2 y8_) (by decide)
            have n1_ := rgI v109_5
            have n2_ := rgI v109_7
            have n3_ := rgI v109_4
            have n4_ := rgI ((v109_6.toUInt32 >>> (v109_7.toUInt32 &&& Int32.toUInt32 31)).toInt32)
            have n5_ := rgI ((v109_6 >>> (v109_7 &&& 31)) &&& (1 : Int32))
            have n6_ := rgI a42_45
            have n8_ := lo_1k
            have n8_ := t_addD (a := v109_7) (b := Int32.ofInt 1)
            have n9_ := rgI (v109_7 + Int32.ofInt 1)
            omega
          · have s62_ := (g.hts y8_).2
            have s63_ := y7_.len9 (y7_.ref (g.hts y8_).1.1 y8_) (by decide)
            have s64_ := y7_.len9 (y7_.ref (g.hts y8_).1.2.1 y8_) (by decide)
            have s65_ := y7_.len9 (y7_.ref (g.hts y8_).1.2.2 y8_) (by decide)
            have n1_ := rgI v109_4
            have n2_ := rgI v109_7
            have n3_ := rgI v109_5
            have n4_ := rgI ((v109_6.toUInt32 >>> (v109_7.toUInt32 &&& Int32.toUInt32 31)).toInt32)
            have n5_ := rgI ((v109_6 >>> (v109_7 &&& 31)) &&& (1 : Int32))
            have n6_ := rgI a42_45
            have n8_ := lo_1k
            have n8_ := t_addD (a := v109_7) (b := Int32.ofInt 1)
            have n9_ := rgI (v109_7 + Int32.ofInt 1)
            omega
          · have s66_ := (g.hts y8_).2
            have s67_ := y7_.len9 (y7_.ref (g.hts y8_).1.1 y8_) (by decide)
            have s68_ := y7_.len9 (y7_.ref (g.hts y8_).1.2.1 y8_) (by decide)
            have s69_ := y7_.len9 (y7_.ref (g.hts y8_).1.2.2 y8_) (by decide)
            have n1_ := rgI v109_4
            have n2_ := rgI v109_7
            have n3_ := rgI v109_5
            have n4_ := rgI ((v109_6.toUInt32 >>> (v109_7.toUInt32 &&& Int32.toUInt32 31)).toInt32)
            have n5_ := rgI ((v109_6 >>> (v109_7 &&& 31)) &&& (1 : Int32))
            have n6_ := rgI a42_45
            have n8_ := lo_1k
            have n8_ := t_addD (a := v109_7) (b := Int32.ofInt 1)
            have n9_ := rgI (v109_7 + Int32.ofInt 1)
            omega
          · have s70_ := (g.hts y8_).2
            have s71_ := y7_.len9 (y7_.ref (g.hts y8_).1.1 y8_) (by decide)
            have s72_ := y7_.len9 (y7_.ref (g.hts y8_).1.2.1 y8_) (by decide)
            have s73_ := y7_.len9 (y7_.ref (g.hts y8_).1.2.2 y8_) (by decide)
            have n1_ := rgI v109_4
            have n2_ := rgI v109_7
            have n3_ := rgI v109_5
            have n4_ := rgI ((v109_6.toUInt32 >>> (v109_7.toUInt32 &&& Int32.toUInt32 31)).toInt32)
            have n5_ := rgI ((v109_6 >>> (v109_7 &&& 31)) &&& (1 : Int32))
            have n6_ := rgI a42_45
            have n8_ := lo_1k
            have n8_ := t_addD (a := v109_7) (b := Int32.ofInt 1)
            have n9_ := rgI (v109_7 + Int32.ofInt 1)
            omega
          · have s74_ := (g.hts y8_).2
            have s75_ := y7_.len9 (y7_.ref (g.hts y8_).1.1 y8_) (by decide)
            have s76_ := y7_.len9 (y7_.ref (g.hts y8_).1.2.1 y8_) (by decide)
            have s77_ := y7_.len9 (y7_.ref (g.hts y8_).1.2.2 y8_) (by decide)
            have n1_ := rgI v109_5
            have n2_ := rgI v109_7
            have n3_ := rgI v109_4
            have n4_ := rgI ((v109_6.toUInt32 >>> (v109_7.toUInt32 &&& Int32.toUInt32 31)).toInt32)
            have n5_ := rgI ((v109_6 >>> (v109_7 &&& 31)) &&& (1 : Int32))
            have n6_ := rgI a42_45
            have n8_ := lo_1k
            have n8_ := t_addD (a := v109_7) (b := Int32.ofInt 1)
            have n9_ := rgI (v109_7 + Int32.ofInt 1)
            omega
          · have s78_ := (g.hts y8_).2
            have s79_ := y7_.len9 (y7_.ref (g.hts y8_).1.1 y8_) (by decide)
            have s80_ := y7_.len9 (y7_.ref (g.hts y8_).1.2.1 y8_) (by decide)
            have s81_ := y7_.len9 (y7_.ref (g.hts y8_).1.2.2 y8_) (by decide)
            have n1_ := rgI a42_45
            have n2_ := rgI v109_7
            have n3_ := rgI v109_5
            have n4_ := rgI v109_4
            have n5_ := rgI ((v109_6.toUInt32 >>> (v109_7.toUInt32 &&& Int32.toUInt32 31)).toInt32)
            have n6_ := rgI ((v109_6 >>> (v109_7 &&& 31)) &&& (1 : Int32))
            have n8_ := lo_1k
            have n8_ := t_addD (a := v109_7) (b := Int32.ofInt 1)
            have n9_ := rgI (v109_7 + Int32.ofInt 1)
            omega
        · intro y9_
          refine ⟨_, frX4_spread y1_ (sgX4_spread y1_ g y9_ h0_ h1_ (by have s83_ := (g.hts y9_).2; have s84_ := y1_.len9 (y1_.ref (g.hts y9_).1.1 y9_) (by decide); have s85_ := y1_.len9 (y1_.ref (g.hts y9_).1.2.1 y9_) (by decide); have s86_ := y1_.len9 (y1_.ref (g.hts y9_).1.2.2 y9_) (by decide); have n1_ := rgI v109_5; have n2_ := rgI v109_7; have n3_ := rgI v109_4; have n4_ := rgI ((v109_6.toUInt32 >>> (v109_7.toUInt32 &&& Int32.toUInt32 31)).toInt32); have n5_ := rgI ((v109_6 >>> (v109_7 &&& 31)) &&& (1 : Int32)); omega) (by have s87_ := (g.hts y9_).2; have s88_ := y1_.len9 (y1_.ref (g.hts y9_).1.1 y9_) (by decide); have s89_ := y1_.len9 (y1_.ref (g.hts y9_).1.2.1 y9_) (by decide); have s90_ := y1_.len9 (y1_.ref (g.hts y9_).1.2.2 y9_) (by decide); have n1_ := rgI v109_5; have n2_ := rgI v109_7; have n3_ := rgI v109_4; have n4_ := rgI ((v109_6.toUInt32 >>> (v109_7.toUInt32 &&& Int32.toUInt32 31)).toInt32); have n5_ := rgI ((v109_6 >>> (v109_7 &&& 31)) &&& (1 : Int32)); omega)), ?_⟩
          intro S45_82 q10_ y11_ y12_
          have t91_ : (qI S45_82 v109_0 5).toInt = (qI U109 v109_0 5).toInt := congrArg Int32.toInt (q10_.2.kI (j := 5) y9_ (by decide) (by decide))
          have t92_ : (qN S45_82 (qO S45_82 v109_0 1) : Int) = (qN U109 (qO U109 v109_0 1) : Int) := q10_.2.kL (j := 1) y1_ y9_ (g.hts y9_).1.2.1 (by decide) (by decide)
          have t93_ : (qN S45_82 (qO S45_82 v109_0 0) : Int) = (qN U109 (qO U109 v109_0 0) : Int) := q10_.2.kL (j := 0) y1_ y9_ (g.hts y9_).1.1 (by decide) (by decide)
          have t94_ : (qN S45_82 (qO S45_82 v109_0 2) : Int) = (qN U109 (qO U109 v109_0 2) : Int) := q10_.2.kL (j := 2) y1_ y9_ (g.hts y9_).1.2.2 (by decide) (by decide)
          have p95_ : qR S45_82 v109_0 3 = some (qO S45_82 v109_0 3) := q10_.2.kP y9_ h0_ (by decide) (by decide)
          have p96_ : qR S45_82 v109_0 4 = some (qO S45_82 v109_0 4) := q10_.2.kP y9_ h1_ (by decide) (by decide)
          have k97_ : qT S45_82 v109_0 = 44 := q10_.2.1.T y9_ (by decide)
          have g : ShC B S45_82 := q10_.1.1
          unfold w_X4_seek_J142
          intro y13_ y14_
          intro a42_98 ea42_98 
          have ga42_98 := congrArg Int32.toInt ea42_98
          refine ih109 g p95_ p96_ ?_ ?_ ?_ ?_ ?_ ?_ ?_ ?_ ?_
          · have s99_ := (g.hts y14_).2
            have s100_ := y13_.len9 (y13_.ref (g.hts y14_).1.1 y14_) (by decide)
            have s101_ := y13_.len9 (y13_.ref (g.hts y14_).1.2.1 y14_) (by decide)
            have s102_ := y13_.len9 (y13_.ref (g.hts y14_).1.2.2 y14_) (by decide)
            have n1_ := rgI a42_98
            have n2_ := rgI v109_7
            have n3_ := rgI v109_5
            have n4_ := rgI v109_4
            have n5_ := rgI ((v109_6.toUInt32 >>> (v109_7.toUInt32 &&& Int32.toUInt32 31)).toInt32)
            have n6_ := rgI ((v109_6 >>> (v109_7 &&& 31)) &&& (1 : Int32))
            have n8_ := lo_1k
            have n8_ := t_addD (a := v109_7) (b := Int32.ofInt 1)
            have n9_ := rgI (v109_7 + Int32.ofInt 1)
            omega
          · have s103_ := (g.hts y14_).2
            have s104_ := y13_.len9 (y13_.ref (g.hts y14_).1.1 y14_) (by decide)
            have s105_ := y13_.len9 (y13_.ref (g.hts y14_).1.2.1 y14_) (by decide)
            have s106_ := y13_.len9 (y13_.ref (g.hts y14_).1.2.2 y14_) (by decide)
            have n1_ := rgI v109_5
            have n2_ := rgI v109_7
            have n3_ := rgI v109_4
            have n4_ := rgI ((v109_6.toUInt32 >>> (v109_7.toUInt32 &&& Int32.toUInt32 31)).toInt32)
            have n5_ := rgI ((v109_6 >>> (v109_7 &&& 31)) &&& (1 : Int32))
            have n6_ := rgI a42_98
            have n8_ := lo_1k
            have n8_ := t_addD (a := v109_7) (b := Int32.ofInt 1)
            have n9_ := rgI (v109_7 + Int32.ofInt 1)
            omega
          · have s107_ := (g.hts y14_).2
            have s108_ := y13_.len9 (y13_.ref (g.hts y14_).1.1 y14_) (by decide)
            have s109_ := y13_.len9 (y13_.ref (g.hts y14_).1.2.1 y14_) (by decide)
            have s110_ := y13_.len9 (y13_.ref (g.hts y14_).1.2.2 y14_) (by decide)
            have n1_ := rgI v109_5
            have n2_ := rgI v109_7
            have n3_ := rgI v109_4
            have n4_ := rgI ((v109_6.toUInt32 >>> (v109_7.toUInt32 &&& Int32.toUInt32 31)).toInt32)
            have n5_ := rgI ((v109_6 >>> (v109_7 &&& 31)) &&& (1 : Int32))
            have n6_ := rgI a42_98
            have n8_ := lo_1k
            have n8_ := t_addD (a := v109_7) (b := Int32.ofInt 1)
            have n9_ := rgI (v109_7 + Int32.ofInt 1)
            omega
          · have s111_ := (g.hts y14_).2
            have s112_ := y13_.len9 (y13_.ref (g.hts y14_).1.1 y14_) (by decide)
            have s113_ := y13_.len9 (y13_.ref (g.hts y14_).1.2.1 y14_) (by decide)
            have s114_ := y13_.len9 (y13_.ref (g.hts y14_).1.2.2 y14_) (by decide)
            have n1_ := rgI v109_5
            have n2_ := rgI v109_7
            have n3_ := rgI v109_4
            have n4_ := rgI ((v109_6.toUInt32 >>> (v109_7.toUInt32 &&& Int32.toUInt32 31)).toInt32)
            have n5_ := rgI ((v109_6 >>> (v109_7 &&& 31)) &&& (1 : Int32))
            have n6_ := rgI a42_98
            have n8_ := lo_1k
            have n8_ := t_addD (a := v109_7) (b := Int32.ofInt 1)
            have n9_ := rgI (v109_7 + Int32.ofInt 1)
            omega
          · have s115_ := (g.hts y14_).2
            have s116_ := y13_.len9 (y13_.ref (g.hts y14_).1.1 y14_) (by decide)
            have s117_ := y13_.len9 (y13_.ref (g.hts y14_).1.2.1 y14_) (by decide)
            have s118_ := y13_.len9 (y13_.ref (g.hts y14_).1.2.2 y14_) (by decide)
            have n1_ := rgI v109_4
            have n2_ := rgI v109_7
            have n3_ := rgI v109_5
            have n4_ := rgI ((v109_6.toUInt32 >>> (v109_7.toUInt32 &&& Int32.toUInt32 31)).toInt32)
            have n5_ := rgI ((v109_6 >>> (v109_7 &&& 31)) &&& (1 : Int32))
            have n6_ := rgI a42_98
            have n8_ := lo_1k
            have n8_ := t_addD (a := v109_7) (b := Int32.ofInt 1)
            have n9_ := rgI (v109_7 + Int32.ofInt 1)
            omega
          · have s119_ := (g.hts y14_).2
            have s120_ := y13_.len9 (y13_.ref (g.hts y14_).1.1 y14_) (by decide)
            have s121_ := y13_.len9 (y13_.ref (g.hts y14_).1.2.1 y14_) (by decide)
            have s122_ := y13_.len9 (y13_.ref (g.hts y14_).1.2.2 y14_) (by decide)
            have n1_ := rgI v109_4
            have n2_ := rgI v109_7
            have n3_ := rgI v109_5
            have n4_ := rgI ((v109_6.toUInt32 >>> (v109_7.toUInt32 &&& Int32.toUInt32 31)).toInt32)
            have n5_ := rgI ((v109_6 >>> (v109_7 &&& 31)) &&& (1 : Int32))
            have n6_ := rgI a42_98
            have n8_ := lo_1k
            have n8_ := t_addD (a := v109_7) (b := Int32.ofInt 1)
            have n9_ := rgI (v109_7 + Int32.ofInt 1)
            omega
          · have s123_ := (g.hts y14_).2
            have s124_ := y13_.len9 (y13_.ref (g.hts y14_).1.1 y14_) (by decide)
            have s125_ := y13_.len9 (y13_.ref (g.hts y14_).1.2.1 y14_) (by decide)
            have s126_ := y13_.len9 (y13_.ref (g.hts y14_).1.2.2 y14_) (by decide)
            have n1_ := rgI v109_4
            have n2_ := rgI v109_7
            have n3_ := rgI v109_5
            have n4_ := rgI ((v109_6.toUInt32 >>> (v109_7.toUInt32 &&& Int32.toUInt32 31)).toInt32)
            have n5_ := rgI ((v109_6 >>> (v109_7 &&& 31)) &&& (1 : Int32))
            have n6_ := rgI a42_98
            have n8_ := lo_1k
            have n8_ := t_addD (a := v109_7) (b := Int32.ofInt 1)
            have n9_ := rgI (v109_7 + Int32.ofInt 1)
            omega
          · have s127_ := (g.hts y14_).2
            have s128_ := y13_.len9 (y13_.ref (g.hts y14_).1.1 y14_) (by decide)
            have s129_ := y13_.len9 (y13_.ref (g.hts y14_).1.2.1 y14_) (by decide)
            have s130_ := y13_.len9 (y13_.ref (g.hts y14_).1.2.2 y14_) (by decide)
            have n1_ := rgI v109_5
            have n2_ := rgI v109_7
            have n3_ := rgI v109_4
            have n4_ := rgI ((v109_6.toUInt32 >>> (v109_7.toUInt32 &&& Int32.toUInt32 31)).toInt32)
            have n5_ := rgI ((v109_6 >>> (v109_7 &&& 31)) &&& (1 : Int32))
            have n6_ := rgI a42_98
            have n8_ := lo_1k
            have n8_ := t_addD (a := v109_7) (b := Int32.ofInt 1)
            have n9_ := rgI (v109_7 + Int32.ofInt 1)
            omega
          · have s131_ := (g.hts y14_).2
            have s132_ := y13_.len9 (y13_.ref (g.hts y14_).1.1 y14_) (by decide)
            have s133_ := y13_.len9 (y13_.ref (g.hts y14_).1.2.1 y14_) (by decide)
            have s134_ := y13_.len9 (y13_.ref (g.hts y14_).1.2.2 y14_) (by decide)
            have n1_ := rgI a42_98
            have n2_ := rgI v109_7
            have n3_ := rgI v109_5
            have n4_ := rgI v109_4
            have n5_ := rgI ((v109_6.toUInt32 >>> (v109_7.toUInt32 &&& Int32.toUInt32 31)).toInt32)
            have n6_ := rgI ((v109_6 >>> (v109_7 &&& 31)) &&& (1 : Int32))
            have n8_ := lo_1k
            have n8_ := t_addD (a := v109_7) (b := Int32.ofInt 1)
            have n9_ := rgI (v109_7 + Int32.ofInt 1)
            omega
set_option maxRecDepth 100000 in
theorem sg_X4_seek_L67 {B : Nat × Nat} {k45 : MS → Nat → Int32 → Prop} {N45 : Nat} (hk45 : ∀ (U45 : MS) (v45_0 : Nat) (v45_4 : Int32), ShC B U45 → qR U45 v45_0 3 = some (qO U45 v45_0 3) → qR U45 v45_0 4 = some (qO U45 v45_0 4) → 0 ≤ v45_4.toInt → 2147483648 - v45_4.toInt < N45 → k45 U45 v45_0 v45_4) : ∀ (n : Nat) {U67 : MS} {v67_0 : Nat} {v67_4 : Int32} {v67_5 : Int32}, ShC B U67 → qR U67 v67_0 3 = some (qO U67 v67_0 3) → qR U67 v67_0 4 = some (qO U67 v67_0 4) → 0 ≤ v67_5.toInt → v67_4.toInt < 2147483647 → 2147483648 - v67_4.toInt ≤ N45 → 0 ≤ v67_4.toInt → 2147483648 - v67_5.toInt < n → w_X4_seek_L67 (fun u => ShC B u ∧ (True)) k45 n U67 v67_0 v67_4 v67_5 := by
  intro n
  induction n with
  | zero => intro U67 v67_0 v67_4 v67_5 g h0_ h1_ j0_ j1_ j2_ j3_ hm_; exfalso; have := rgI v67_4; have := rgI v67_5; omega
  | succ n ih67 =>
    intro U67 v67_0 v67_4 v67_5 g h0_ h1_ j0_ j1_ j2_ j3_ hm_
    unfold w_X4_seek_L67
    intro y15_ y16_
    refine ⟨?_, ?_⟩
    · exact h1_
    refine ⟨fun c135_ => ?_, fun c135_ => ?_⟩
    · unfold w_X4_seek_J154
      intro y17_ y18_
      intro a21_136 ea21_136 
      have ga21_136 := congrArg Int32.toInt ea21_136
      refine hk45 _ _ _ g h0_ h1_ ?_ ?_
      · have s137_ := (g.hts y18_).2
        have s138_ := y17_.len9 (y17_.ref (g.hts y18_).1.1 y18_) (by decide)
        have s139_ := y17_.len9 (y17_.ref (g.hts y18_).1.2.1 y18_) (by decide)
        have s140_ := y17_.len9 (y17_.ref (g.hts y18_).1.2.2 y18_) (by decide)
        have s141_ := (g.row (y17_.ref h1_ y18_)).2
        have n1_ := rgI a21_136
        have n2_ := rgI v67_5
        have n3_ := rgI v67_4
        have n4_ := rgI (qI U67 (qO U67 v67_0 4) 2)
        have n6_ := lo_1k
        have n6_ := t_addD (a := v67_4) (b := Int32.ofInt 1)
        have n7_ := rgI (v67_4 + Int32.ofInt 1)
        omega
      · have s142_ := (g.hts y18_).2
        have s143_ := y17_.len9 (y17_.ref (g.hts y18_).1.1 y18_) (by decide)
        have s144_ := y17_.len9 (y17_.ref (g.hts y18_).1.2.1 y18_) (by decide)
        have s145_ := y17_.len9 (y17_.ref (g.hts y18_).1.2.2 y18_) (by decide)
        have s146_ := (g.row (y17_.ref h1_ y18_)).2
        have n1_ := rgI a21_136
        have n2_ := rgI v67_5
        have n3_ := rgI v67_4
        have n4_ := rgI (qI U67 (qO U67 v67_0 4) 2)
        have n6_ := lo_1k
        have n6_ := t_addD (a := v67_4) (b := Int32.ofInt 1)
        have n7_ := rgI (v67_4 + Int32.ofInt 1)
        omega
    · refine ⟨?_, ?_⟩
      · exact (g.hts y16_).1.2.1
      refine ⟨fun c147_ => ?_, fun c147_ => ?_⟩
      · unfold w_X4_seek_J154
        intro y19_ y20_
        intro a21_148 ea21_148 
        have ga21_148 := congrArg Int32.toInt ea21_148
        refine hk45 _ _ _ g h0_ h1_ ?_ ?_
        · have s149_ := (g.hts y20_).2
          have s150_ := y19_.len9 (y19_.ref (g.hts y20_).1.1 y20_) (by decide)
          have s151_ := y19_.len9 (y19_.ref (g.hts y20_).1.2.1 y20_) (by decide)
          have s152_ := y19_.len9 (y19_.ref (g.hts y20_).1.2.2 y20_) (by decide)
          have s153_ := (g.row (y19_.ref h1_ y20_)).2
          have n1_ := rgI a21_148
          have n2_ := rgI v67_5
          have n3_ := rgI v67_4
          have n4_ := rgI (qI U67 (qO U67 v67_0 4) 2)
          have n6_ := lo_1k
          have n6_ := t_addD (a := v67_4) (b := Int32.ofInt 1)
          have n7_ := rgI (v67_4 + Int32.ofInt 1)
          omega
        · have s154_ := (g.hts y20_).2
          have s155_ := y19_.len9 (y19_.ref (g.hts y20_).1.1 y20_) (by decide)
          have s156_ := y19_.len9 (y19_.ref (g.hts y20_).1.2.1 y20_) (by decide)
          have s157_ := y19_.len9 (y19_.ref (g.hts y20_).1.2.2 y20_) (by decide)
          have s158_ := (g.row (y19_.ref h1_ y20_)).2
          have n1_ := rgI a21_148
          have n2_ := rgI v67_5
          have n3_ := rgI v67_4
          have n4_ := rgI (qI U67 (qO U67 v67_0 4) 2)
          have n6_ := lo_1k
          have n6_ := t_addD (a := v67_4) (b := Int32.ofInt 1)
          have n7_ := rgI (v67_4 + Int32.ofInt 1)
          omega
      · refine ⟨?_, ?_⟩
        · exact (g.hts y16_).1.2.1
        refine ⟨?_, ?_⟩
        · have s159_ := (g.hts y16_).2
          have s160_ := y15_.len9 (y15_.ref (g.hts y16_).1.1 y16_) (by decide)
          have s161_ := y15_.len9 (y15_.ref (g.hts y16_).1.2.1 y16_) (by decide)
          have s162_ := y15_.len9 (y15_.ref (g.hts y16_).1.2.2 y16_) (by decide)
          have s163_ := (g.row (y15_.ref h1_ y16_)).2
          have n1_ := rgI v67_5
          have n2_ := rgI v67_4
          have n3_ := rgI (qI U67 (qO U67 v67_0 4) 2)
          omega
        intro a31_164 ea31_164 
        have ga31_164 := congrArg Int32.toInt ea31_164
        refine ⟨?_, ?_⟩
        · exact (g.hts y16_).1.2.1
        refine ⟨?_, ?_⟩
        · have s165_ := (g.hts y16_).2
          have s166_ := y15_.len9 (y15_.ref (g.hts y16_).1.1 y16_) (by decide)
          have s167_ := y15_.len9 (y15_.ref (g.hts y16_).1.2.1 y16_) (by decide)
          have s168_ := y15_.len9 (y15_.ref (g.hts y16_).1.2.2 y16_) (by decide)
          have s169_ := (g.row (y15_.ref h1_ y16_)).2
          have n1_ := rgI v67_5
          have n2_ := rgI v67_4
          have n3_ := rgI (qI U67 (qO U67 v67_0 4) 2)
          have n4_ := rgI a31_164
          have n5_ := rgI (qI U67 (qO U67 v67_0 1) v67_5.toInt.toNat)
          omega
        intro S35_170 eS35_170 y21_ y22_
        have f171_ : cfr [214] [] U67 S35_170 := by rw [eS35_170]; exact cfr.aI y21_ (by decide)
        have t172_ : (qI S35_170 v67_0 7).toInt = (qI U67 v67_0 7).toInt := congrArg Int32.toInt (f171_.kI (j := 7) y16_ (by decide) (by decide))
        have t173_ : (qI S35_170 v67_0 6).toInt = (qI U67 v67_0 6).toInt := congrArg Int32.toInt (f171_.kI (j := 6) y16_ (by decide) (by decide))
        have t174_ : (qI S35_170 v67_0 5).toInt = (qI U67 v67_0 5).toInt := congrArg Int32.toInt (f171_.kI (j := 5) y16_ (by decide) (by decide))
        have t175_ : (qN S35_170 (qO S35_170 v67_0 1) : Int) = (qN U67 (qO U67 v67_0 1) : Int) := f171_.kL (j := 1) y15_ y16_ (g.hts y16_).1.2.1 (by decide) (by decide)
        have t176_ : (qN S35_170 (qO S35_170 v67_0 0) : Int) = (qN U67 (qO U67 v67_0 0) : Int) := f171_.kL (j := 0) y15_ y16_ (g.hts y16_).1.1 (by decide) (by decide)
        have t177_ : (qN S35_170 (qO S35_170 v67_0 2) : Int) = (qN U67 (qO U67 v67_0 2) : Int) := f171_.kL (j := 2) y15_ y16_ (g.hts y16_).1.2.2 (by decide) (by decide)
        have o178_ : qO S35_170 v67_0 4 = qO U67 v67_0 4 := qO_eq (f171_.kO y16_ (by decide) (by decide))
        have t179_ : (qI S35_170 (qO S35_170 v67_0 4) 4).toInt = (qI U67 (qO U67 v67_0 4) 4).toInt := by rw [o178_]; exact congrArg Int32.toInt (f171_.kI (j := 4) (y15_.ref h1_ y16_) (by decide) (by decide))
        have t180_ : (qI S35_170 (qO S35_170 v67_0 4) 9).toInt = (qI U67 (qO U67 v67_0 4) 9).toInt := by rw [o178_]; exact congrArg Int32.toInt (f171_.kI (j := 9) (y15_.ref h1_ y16_) (by decide) (by decide))
        have t181_ : (qI S35_170 (qO S35_170 v67_0 4) 2).toInt = (qI U67 (qO U67 v67_0 4) 2).toInt := by rw [o178_]; exact congrArg Int32.toInt (f171_.kI (j := 2) (y15_.ref h1_ y16_) (by decide) (by decide))
        have t182_ : (qN S35_170 (qO S35_170 (qO S35_170 v67_0 4) 1) : Int) = (qN U67 (qO U67 (qO U67 v67_0 4) 1) : Int) := by rw [o178_]; exact f171_.kL (j := 1) y15_ (y15_.ref h1_ y16_) (g.row (y15_.ref h1_ y16_)).1.2.1 (by decide) (by decide)
        have t183_ : (qN S35_170 (qO S35_170 (qO S35_170 v67_0 4) 8) : Int) = (qN U67 (qO U67 (qO U67 v67_0 4) 8) : Int) := by rw [o178_]; exact f171_.kL (j := 8) y15_ (y15_.ref h1_ y16_) (g.row (y15_.ref h1_ y16_)).1.2.2.2.2.2.2 (by decide) (by decide)
        have t184_ : (qN S35_170 (qO S35_170 (qO S35_170 v67_0 4) 7) : Int) = (qN U67 (qO U67 (qO U67 v67_0 4) 7) : Int) := by rw [o178_]; exact f171_.kL (j := 7) y15_ (y15_.ref h1_ y16_) (g.row (y15_.ref h1_ y16_)).1.2.2.2.2.2.1 (by decide) (by decide)
        have t185_ : (qN S35_170 (qO S35_170 (qO S35_170 v67_0 4) 0) : Int) = (qN U67 (qO U67 (qO U67 v67_0 4) 0) : Int) := by rw [o178_]; exact f171_.kL (j := 0) y15_ (y15_.ref h1_ y16_) (g.row (y15_.ref h1_ y16_)).1.1 (by decide) (by decide)
        have t186_ : (qN S35_170 (qO S35_170 (qO S35_170 v67_0 4) 6) : Int) = (qN U67 (qO U67 (qO U67 v67_0 4) 6) : Int) := by rw [o178_]; exact f171_.kL (j := 6) y15_ (y15_.ref h1_ y16_) (g.row (y15_.ref h1_ y16_)).1.2.2.2.2.1 (by decide) (by decide)
        have t187_ : (qN S35_170 (qO S35_170 (qO S35_170 v67_0 4) 3) : Int) = (qN U67 (qO U67 (qO U67 v67_0 4) 3) : Int) := by rw [o178_]; exact f171_.kL (j := 3) y15_ (y15_.ref h1_ y16_) (g.row (y15_.ref h1_ y16_)).1.2.2.1 (by decide) (by decide)
        have t188_ : (qN S35_170 (qO S35_170 (qO S35_170 v67_0 4) 5) : Int) = (qN U67 (qO U67 (qO U67 v67_0 4) 5) : Int) := by rw [o178_]; exact f171_.kL (j := 5) y15_ (y15_.ref h1_ y16_) (g.row (y15_.ref h1_ y16_)).1.2.2.2.1 (by decide) (by decide)
        have p189_ : qR S35_170 v67_0 3 = some (qO S35_170 v67_0 3) := f171_.kP y16_ h0_ (by decide) (by decide)
        have p190_ : qR S35_170 v67_0 4 = some (qO S35_170 v67_0 4) := f171_.kP y16_ h1_ (by decide) (by decide)
        have k191_ : qT S35_170 v67_0 = 44 := f171_.1.T y16_ (by decide)
        have g : ShC B S35_170 := ShC.ws y15_ g f171_ (by rw [eS35_170]; rfl) (by rw [eS35_170]; rfl) (by rw [eS35_170]; rfl) rfl rfl
        refine ⟨(2147483648 - (0 : Int32).toInt).toNat + 1, ?_⟩
        refine sg_X4_seek_L109  (fun _ _ _ _ g_ p0_ p1_ i0_ i1_ i2_ i3_ hm_ => ih67 g_ p0_ p1_ i0_ i1_ i2_ i3_ hm_) _ g p189_ p190_ ?_ ?_ ?_ ?_ ?_ ?_ ?_ ?_ ?_
        · have s192_ := (g.hts k191_).2
          have s193_ := y22_.len9 (y22_.ref (g.hts k191_).1.1 k191_) (by decide)
          have s194_ := y22_.len9 (y22_.ref (g.hts k191_).1.2.1 k191_) (by decide)
          have s195_ := y22_.len9 (y22_.ref (g.hts k191_).1.2.2 k191_) (by decide)
          have s196_ := (g.row (y22_.ref p190_ k191_)).2
          have n1_ := li_0k
          have n2_ := rgI v67_5
          have n3_ := rgI v67_4
          have n4_ := rgI (qI U67 (qO U67 v67_0 4) 2)
          have n5_ := rgI a31_164
          have n6_ := rgI (qI U67 (qO U67 v67_0 1) v67_5.toInt.toNat)
          omega
        · have s197_ := (g.hts k191_).2
          have s198_ := y22_.len9 (y22_.ref (g.hts k191_).1.1 k191_) (by decide)
          have s199_ := y22_.len9 (y22_.ref (g.hts k191_).1.2.1 k191_) (by decide)
          have s200_ := y22_.len9 (y22_.ref (g.hts k191_).1.2.2 k191_) (by decide)
          have s201_ := (g.row (y22_.ref p190_ k191_)).2
          have n1_ := rgI v67_5
          have n2_ := rgI v67_4
          have n3_ := rgI (qI U67 (qO U67 v67_0 4) 2)
          have n4_ := rgI a31_164
          have n5_ := rgI (qI U67 (qO U67 v67_0 1) v67_5.toInt.toNat)
          omega
        · have s202_ := (g.hts k191_).2
          have s203_ := y22_.len9 (y22_.ref (g.hts k191_).1.1 k191_) (by decide)
          have s204_ := y22_.len9 (y22_.ref (g.hts k191_).1.2.1 k191_) (by decide)
          have s205_ := y22_.len9 (y22_.ref (g.hts k191_).1.2.2 k191_) (by decide)
          have s206_ := (g.row (y22_.ref p190_ k191_)).2
          have n1_ := rgI v67_5
          have n2_ := rgI v67_4
          have n3_ := rgI (qI U67 (qO U67 v67_0 4) 2)
          have n4_ := rgI a31_164
          have n5_ := rgI (qI U67 (qO U67 v67_0 1) v67_5.toInt.toNat)
          omega
        · have s207_ := (g.hts k191_).2
          have s208_ := y22_.len9 (y22_.ref (g.hts k191_).1.1 k191_) (by decide)
          have s209_ := y22_.len9 (y22_.ref (g.hts k191_).1.2.1 k191_) (by decide)
          have s210_ := y22_.len9 (y22_.ref (g.hts k191_).1.2.2 k191_) (by decide)
          have s211_ := (g.row (y22_.ref p190_ k191_)).2
          have n1_ := rgI v67_5
          have n2_ := rgI v67_4
          have n3_ := rgI (qI U67 (qO U67 v67_0 4) 2)
          have n4_ := rgI a31_164
          have n5_ := rgI (qI U67 (qO U67 v67_0 1) v67_5.toInt.toNat)
          omega
        · have s212_ := (g.hts k191_).2
          have s213_ := y22_.len9 (y22_.ref (g.hts k191_).1.1 k191_) (by decide)
          have s214_ := y22_.len9 (y22_.ref (g.hts k191_).1.2.1 k191_) (by decide)
          have s215_ := y22_.len9 (y22_.ref (g.hts k191_).1.2.2 k191_) (by decide)
          have s216_ := (g.row (y22_.ref p190_ k191_)).2
          have n1_ := rgI v67_4
          have n2_ := rgI v67_5
          have n3_ := rgI (qI U67 (qO U67 v67_0 4) 2)
          have n4_ := rgI a31_164
          have n5_ := rgI (qI U67 (qO U67 v67_0 1) v67_5.toInt.toNat)
          omega
        · have s217_ := (g.hts k191_).2
          have s218_ := y22_.len9 (y22_.ref (g.hts k191_).1.1 k191_) (by decide)
          have s219_ := y22_.len9 (y22_.ref (g.hts k191_).1.2.1 k191_) (by decide)
          have s220_ := y22_.len9 (y22_.ref (g.hts k191_).1.2.2 k191_) (by decide)
          have s221_ := (g.row (y22_.ref p190_ k191_)).2
          have n1_ := rgI v67_4
          have n2_ := rgI v67_5
          have n3_ := rgI (qI U67 (qO U67 v67_0 4) 2)
          have n4_ := rgI a31_164
          have n5_ := rgI (qI U67 (qO U67 v67_0 1) v67_5.toInt.toNat)
          omega
        · have s222_ := (g.hts k191_).2
          have s223_ := y22_.len9 (y22_.ref (g.hts k191_).1.1 k191_) (by decide)
          have s224_ := y22_.len9 (y22_.ref (g.hts k191_).1.2.1 k191_) (by decide)
          have s225_ := y22_.len9 (y22_.ref (g.hts k191_).1.2.2 k191_) (by decide)
          have s226_ := (g.row (y22_.ref p190_ k191_)).2
          have n1_ := rgI v67_4
          have n2_ := rgI v67_5
          have n3_ := rgI (qI U67 (qO U67 v67_0 4) 2)
          have n4_ := rgI a31_164
          have n5_ := rgI (qI U67 (qO U67 v67_0 1) v67_5.toInt.toNat)
          omega
        · have s227_ := (g.hts k191_).2
          have s228_ := y22_.len9 (y22_.ref (g.hts k191_).1.1 k191_) (by decide)
          have s229_ := y22_.len9 (y22_.ref (g.hts k191_).1.2.1 k191_) (by decide)
          have s230_ := y22_.len9 (y22_.ref (g.hts k191_).1.2.2 k191_) (by decide)
          have s231_ := (g.row (y22_.ref p190_ k191_)).2
          have n1_ := rgI v67_5
          have n2_ := rgI v67_4
          have n3_ := rgI (qI U67 (qO U67 v67_0 4) 2)
          have n4_ := rgI a31_164
          have n5_ := rgI (qI U67 (qO U67 v67_0 1) v67_5.toInt.toNat)
          omega
        · have s232_ := (g.hts k191_).2
          have s233_ := y22_.len9 (y22_.ref (g.hts k191_).1.1 k191_) (by decide)
          have s234_ := y22_.len9 (y22_.ref (g.hts k191_).1.2.1 k191_) (by decide)
          have s235_ := y22_.len9 (y22_.ref (g.hts k191_).1.2.2 k191_) (by decide)
          have s236_ := (g.row (y22_.ref p190_ k191_)).2
          have n1_ := li_0k
          have n2_ := rgI v67_5
          have n3_ := rgI v67_4
          have n4_ := rgI (qI U67 (qO U67 v67_0 4) 2)
          have n5_ := rgI a31_164
          have n6_ := rgI (qI U67 (qO U67 v67_0 1) v67_5.toInt.toNat)
          omega
set_option maxRecDepth 100000 in
theorem sg_X4_seek_L45 {B : Nat × Nat} : ∀ (n : Nat) {U45 : MS} {v45_0 : Nat} {v45_4 : Int32}, ShC B U45 → qR U45 v45_0 3 = some (qO U45 v45_0 3) → qR U45 v45_0 4 = some (qO U45 v45_0 4) → 0 ≤ v45_4.toInt → 2147483648 - v45_4.toInt < n → w_X4_seek_L45 (fun u => ShC B u ∧ (True)) n U45 v45_0 v45_4 := by
  intro n
  induction n with
  | zero => intro U45 v45_0 v45_4 g h0_ h1_ j0_ hm_; exfalso; have := rgI v45_4; omega
  | succ n ih45 =>
    intro U45 v45_0 v45_4 g h0_ h1_ j0_ hm_
    unfold w_X4_seek_L45
    intro y23_ y24_
    refine ⟨fun c237_ => ?_, fun c237_ => ?_⟩
    · exact ⟨g, trivial⟩
    · refine ⟨fun c238_ => ?_, fun c238_ => ?_⟩
      · exact ⟨g, trivial⟩
      · intro S18_239 eS18_239 y25_ y26_
        have f240_ : cfr [] [(44, 6)] U45 S18_239 := by rw [eS18_239]; exact cfr.oI y25_ (by decide)
        have t241_ : (qI S18_239 v45_0 7).toInt = (qI U45 v45_0 7).toInt := congrArg Int32.toInt (f240_.kI (j := 7) y24_ (by decide) (by decide))
        have t242_ : (qI S18_239 v45_0 5).toInt = (qI U45 v45_0 5).toInt := congrArg Int32.toInt (f240_.kI (j := 5) y24_ (by decide) (by decide))
        have t243_ : (qN S18_239 (qO S18_239 v45_0 1) : Int) = (qN U45 (qO U45 v45_0 1) : Int) := f240_.kL (j := 1) y23_ y24_ (g.hts y24_).1.2.1 (by decide) (by decide)
        have t244_ : (qN S18_239 (qO S18_239 v45_0 0) : Int) = (qN U45 (qO U45 v45_0 0) : Int) := f240_.kL (j := 0) y23_ y24_ (g.hts y24_).1.1 (by decide) (by decide)
        have t245_ : (qN S18_239 (qO S18_239 v45_0 2) : Int) = (qN U45 (qO U45 v45_0 2) : Int) := f240_.kL (j := 2) y23_ y24_ (g.hts y24_).1.2.2 (by decide) (by decide)
        have p246_ : qR S18_239 v45_0 3 = some (qO S18_239 v45_0 3) := f240_.kP y24_ h0_ (by decide) (by decide)
        have p247_ : qR S18_239 v45_0 4 = some (qO S18_239 v45_0 4) := f240_.kP y24_ h1_ (by decide) (by decide)
        have k248_ : qT S18_239 v45_0 = 44 := f240_.1.T y24_ (by decide)
        have t249_ : (qI S18_239 v45_0 6).toInt = (0 : Int32).toInt := by rw [eS18_239, qI_wI, if_pos ⟨rfl, rfl⟩]
        have g : ShC B S18_239 := ShC.ws y23_ g f240_ (by rw [eS18_239]; rfl) (by rw [eS18_239]; rfl) (by rw [eS18_239]; rfl) rfl rfl
        refine ⟨(2147483648 - (0 : Int32).toInt).toNat + 1, ?_⟩
        refine sg_X4_seek_L67  (fun _ _ _ g_ p0_ p1_ i0_ hm_ => ih45 g_ p0_ p1_ i0_ hm_) _ g p246_ p247_ ?_ ?_ ?_ ?_ ?_
        · have s250_ := (g.hts k248_).2
          have s251_ := y26_.len9 (y26_.ref (g.hts k248_).1.1 k248_) (by decide)
          have s252_ := y26_.len9 (y26_.ref (g.hts k248_).1.2.1 k248_) (by decide)
          have s253_ := y26_.len9 (y26_.ref (g.hts k248_).1.2.2 k248_) (by decide)
          have n1_ := li_0k
          have n2_ := rgI v45_4
          have n3_ := rgI (qI U45 v45_0 6)
          have n4_ := rgI (qI S18_239 v45_0 6)
          omega
        · have s254_ := (g.hts k248_).2
          have s255_ := y26_.len9 (y26_.ref (g.hts k248_).1.1 k248_) (by decide)
          have s256_ := y26_.len9 (y26_.ref (g.hts k248_).1.2.1 k248_) (by decide)
          have s257_ := y26_.len9 (y26_.ref (g.hts k248_).1.2.2 k248_) (by decide)
          have n1_ := rgI v45_4
          have n2_ := rgI (qI U45 v45_0 6)
          have n3_ := rgI (qI S18_239 v45_0 6)
          have n4_ := li_0k
          omega
        · have s258_ := (g.hts k248_).2
          have s259_ := y26_.len9 (y26_.ref (g.hts k248_).1.1 k248_) (by decide)
          have s260_ := y26_.len9 (y26_.ref (g.hts k248_).1.2.1 k248_) (by decide)
          have s261_ := y26_.len9 (y26_.ref (g.hts k248_).1.2.2 k248_) (by decide)
          have n1_ := rgI v45_4
          have n2_ := rgI (qI U45 v45_0 6)
          have n3_ := rgI (qI S18_239 v45_0 6)
          have n4_ := li_0k
          omega
        · have s262_ := (g.hts k248_).2
          have s263_ := y26_.len9 (y26_.ref (g.hts k248_).1.1 k248_) (by decide)
          have s264_ := y26_.len9 (y26_.ref (g.hts k248_).1.2.1 k248_) (by decide)
          have s265_ := y26_.len9 (y26_.ref (g.hts k248_).1.2.2 k248_) (by decide)
          have n1_ := rgI v45_4
          have n2_ := rgI (qI U45 v45_0 6)
          have n3_ := rgI (qI S18_239 v45_0 6)
          have n4_ := li_0k
          omega
        · have s266_ := (g.hts k248_).2
          have s267_ := y26_.len9 (y26_.ref (g.hts k248_).1.1 k248_) (by decide)
          have s268_ := y26_.len9 (y26_.ref (g.hts k248_).1.2.1 k248_) (by decide)
          have s269_ := y26_.len9 (y26_.ref (g.hts k248_).1.2.2 k248_) (by decide)
          have n1_ := li_0k
          have n2_ := rgI v45_4
          have n3_ := rgI (qI U45 v45_0 6)
          have n4_ := rgI (qI S18_239 v45_0 6)
          omega
set_option maxRecDepth 100000 in
theorem sgX4_seek {B : Nat × Nat} {S : MS} {p0 : Nat} {p1 : Nat} {p2 : Nat} {x3 : Int32} (hw : wfC S) (g : ShC B S) (k_p0 : qT S p0 = 44) (k_p1 : qT S p1 = 49) (k_p2 : qT S p2 = 47) (a0_ : p0 = 17 ∧ (qI S p2 2).toInt ≤ 1200 ∨ p0 = 38 ∧ (qI S p2 2).toInt ≤ 1296) : wX4_seek S p0 p1 p2 x3 (fun u => ShC B u ∧ (True)) := by
  unfold wX4_seek
  intro S1_270 eS1_270 y27_ y28_
  have f271_ : cfr [] [(44, 3)] S S1_270 := by rw [eS1_270]; exact cfr.oR y27_ (by decide)
  have t272_ : (qI S1_270 p0 7).toInt = (qI S p0 7).toInt := congrArg Int32.toInt (f271_.kI (j := 7) k_p0 (by decide) (by decide))
  have t273_ : (qI S1_270 p0 6).toInt = (qI S p0 6).toInt := congrArg Int32.toInt (f271_.kI (j := 6) k_p0 (by decide) (by decide))
  have t274_ : (qI S1_270 p0 5).toInt = (qI S p0 5).toInt := congrArg Int32.toInt (f271_.kI (j := 5) k_p0 (by decide) (by decide))
  have t275_ : (qN S1_270 (qO S1_270 p0 1) : Int) = (qN S (qO S p0 1) : Int) := f271_.kL (j := 1) hw k_p0 (g.hts k_p0).1.2.1 (by decide) (by decide)
  have t276_ : (qN S1_270 (qO S1_270 p0 0) : Int) = (qN S (qO S p0 0) : Int) := f271_.kL (j := 0) hw k_p0 (g.hts k_p0).1.1 (by decide) (by decide)
  have t277_ : (qN S1_270 (qO S1_270 p0 2) : Int) = (qN S (qO S p0 2) : Int) := f271_.kL (j := 2) hw k_p0 (g.hts k_p0).1.2.2 (by decide) (by decide)
  have t278_ : (qI S1_270 p2 4).toInt = (qI S p2 4).toInt := congrArg Int32.toInt (f271_.kI (j := 4) k_p2 (by decide) (by decide))
  have t279_ : (qI S1_270 p2 9).toInt = (qI S p2 9).toInt := congrArg Int32.toInt (f271_.kI (j := 9) k_p2 (by decide) (by decide))
  have t280_ : (qI S1_270 p2 2).toInt = (qI S p2 2).toInt := congrArg Int32.toInt (f271_.kI (j := 2) k_p2 (by decide) (by decide))
  have t281_ : (qN S1_270 (qO S1_270 p2 1) : Int) = (qN S (qO S p2 1) : Int) := f271_.kL (j := 1) hw k_p2 (g.row k_p2).1.2.1 (by decide) (by decide)
  have t282_ : (qN S1_270 (qO S1_270 p2 8) : Int) = (qN S (qO S p2 8) : Int) := f271_.kL (j := 8) hw k_p2 (g.row k_p2).1.2.2.2.2.2.2 (by decide) (by decide)
  have t283_ : (qN S1_270 (qO S1_270 p2 7) : Int) = (qN S (qO S p2 7) : Int) := f271_.kL (j := 7) hw k_p2 (g.row k_p2).1.2.2.2.2.2.1 (by decide) (by decide)
  have t284_ : (qN S1_270 (qO S1_270 p2 0) : Int) = (qN S (qO S p2 0) : Int) := f271_.kL (j := 0) hw k_p2 (g.row k_p2).1.1 (by decide) (by decide)
  have t285_ : (qN S1_270 (qO S1_270 p2 6) : Int) = (qN S (qO S p2 6) : Int) := f271_.kL (j := 6) hw k_p2 (g.row k_p2).1.2.2.2.2.1 (by decide) (by decide)
  have t286_ : (qN S1_270 (qO S1_270 p2 3) : Int) = (qN S (qO S p2 3) : Int) := f271_.kL (j := 3) hw k_p2 (g.row k_p2).1.2.2.1 (by decide) (by decide)
  have t287_ : (qN S1_270 (qO S1_270 p2 5) : Int) = (qN S (qO S p2 5) : Int) := f271_.kL (j := 5) hw k_p2 (g.row k_p2).1.2.2.2.1 (by decide) (by decide)
  have k288_ : qT S1_270 p0 = 44 := f271_.1.T k_p0 (by decide)
  have k289_ : qT S1_270 p1 = 49 := f271_.1.T k_p1 (by decide)
  have k290_ : qT S1_270 p2 = 47 := f271_.1.T k_p2 (by decide)
  have p291_ : qR S1_270 p0 3 = some (qO S1_270 p0 3) := some_qO (by rw [eS1_270, qR_wR, if_pos ⟨rfl, rfl⟩]; exact Option.some_ne_none _)
  have o292_ : qO S1_270 p0 3 = p1 := qO_of (by rw [eS1_270, qR_wR, if_pos ⟨rfl, rfl⟩])
  have g : ShC B S1_270 := ShC.ws hw g f271_ (by rw [eS1_270]; rfl) (by rw [eS1_270]; rfl) (by rw [eS1_270]; rfl) rfl rfl
  intro S2_293 eS2_293 y29_ y30_
  have f294_ : cfr [] [(44, 4)] S1_270 S2_293 := by rw [eS2_293]; exact cfr.oR y29_ (by decide)
  have t295_ : (qI S2_293 p0 7).toInt = (qI S1_270 p0 7).toInt := congrArg Int32.toInt (f294_.kI (j := 7) k288_ (by decide) (by decide))
  have t296_ : (qI S2_293 p0 6).toInt = (qI S1_270 p0 6).toInt := congrArg Int32.toInt (f294_.kI (j := 6) k288_ (by decide) (by decide))
  have t297_ : (qI S2_293 p0 5).toInt = (qI S1_270 p0 5).toInt := congrArg Int32.toInt (f294_.kI (j := 5) k288_ (by decide) (by decide))
  have t298_ : (qN S2_293 (qO S2_293 p0 1) : Int) = (qN S1_270 (qO S1_270 p0 1) : Int) := f294_.kL (j := 1) y28_ k288_ (g.hts k288_).1.2.1 (by decide) (by decide)
  have t299_ : (qN S2_293 (qO S2_293 p0 0) : Int) = (qN S1_270 (qO S1_270 p0 0) : Int) := f294_.kL (j := 0) y28_ k288_ (g.hts k288_).1.1 (by decide) (by decide)
  have t300_ : (qN S2_293 (qO S2_293 p0 2) : Int) = (qN S1_270 (qO S1_270 p0 2) : Int) := f294_.kL (j := 2) y28_ k288_ (g.hts k288_).1.2.2 (by decide) (by decide)
  have t301_ : (qI S2_293 p2 4).toInt = (qI S1_270 p2 4).toInt := congrArg Int32.toInt (f294_.kI (j := 4) k290_ (by decide) (by decide))
  have t302_ : (qI S2_293 p2 9).toInt = (qI S1_270 p2 9).toInt := congrArg Int32.toInt (f294_.kI (j := 9) k290_ (by decide) (by decide))
  have t303_ : (qI S2_293 p2 2).toInt = (qI S1_270 p2 2).toInt := congrArg Int32.toInt (f294_.kI (j := 2) k290_ (by decide) (by decide))
  have t304_ : (qN S2_293 (qO S2_293 p2 1) : Int) = (qN S1_270 (qO S1_270 p2 1) : Int) := f294_.kL (j := 1) y28_ k290_ (g.row k290_).1.2.1 (by decide) (by decide)
  have t305_ : (qN S2_293 (qO S2_293 p2 8) : Int) = (qN S1_270 (qO S1_270 p2 8) : Int) := f294_.kL (j := 8) y28_ k290_ (g.row k290_).1.2.2.2.2.2.2 (by decide) (by decide)
  have t306_ : (qN S2_293 (qO S2_293 p2 7) : Int) = (qN S1_270 (qO S1_270 p2 7) : Int) := f294_.kL (j := 7) y28_ k290_ (g.row k290_).1.2.2.2.2.2.1 (by decide) (by decide)
  have t307_ : (qN S2_293 (qO S2_293 p2 0) : Int) = (qN S1_270 (qO S1_270 p2 0) : Int) := f294_.kL (j := 0) y28_ k290_ (g.row k290_).1.1 (by decide) (by decide)
  have t308_ : (qN S2_293 (qO S2_293 p2 6) : Int) = (qN S1_270 (qO S1_270 p2 6) : Int) := f294_.kL (j := 6) y28_ k290_ (g.row k290_).1.2.2.2.2.1 (by decide) (by decide)
  have t309_ : (qN S2_293 (qO S2_293 p2 3) : Int) = (qN S1_270 (qO S1_270 p2 3) : Int) := f294_.kL (j := 3) y28_ k290_ (g.row k290_).1.2.2.1 (by decide) (by decide)
  have t310_ : (qN S2_293 (qO S2_293 p2 5) : Int) = (qN S1_270 (qO S1_270 p2 5) : Int) := f294_.kL (j := 5) y28_ k290_ (g.row k290_).1.2.2.2.1 (by decide) (by decide)
  have p311_ : qR S2_293 p0 3 = some (qO S2_293 p0 3) := f294_.kP k288_ p291_ (by decide) (by decide)
  have k312_ : qT S2_293 p0 = 44 := f294_.1.T k288_ (by decide)
  have k313_ : qT S2_293 p1 = 49 := f294_.1.T k289_ (by decide)
  have k314_ : qT S2_293 p2 = 47 := f294_.1.T k290_ (by decide)
  have p315_ : qR S2_293 p0 4 = some (qO S2_293 p0 4) := some_qO (by rw [eS2_293, qR_wR, if_pos ⟨rfl, rfl⟩]; exact Option.some_ne_none _)
  have o316_ : qO S2_293 p0 4 = p2 := qO_of (by rw [eS2_293, qR_wR, if_pos ⟨rfl, rfl⟩])
  have t317_ : (qI S2_293 (qO S2_293 p0 4) 2).toInt = (qI S2_293 p2 2).toInt := by rw [o316_]
  have t318_ : (qI S2_293 (qO S2_293 p0 4) 4).toInt = (qI S2_293 p2 4).toInt := by rw [o316_]
  have t319_ : (qI S2_293 (qO S2_293 p0 4) 9).toInt = (qI S2_293 p2 9).toInt := by rw [o316_]
  have g : ShC B S2_293 := ShC.ws y28_ g f294_ (by rw [eS2_293]; rfl) (by rw [eS2_293]; rfl) (by rw [eS2_293]; rfl) rfl rfl
  intro S3_320 eS3_320 y31_ y32_
  have f321_ : cfr [] [(44, 5)] S2_293 S3_320 := by rw [eS3_320]; exact cfr.oI y31_ (by decide)
  have t322_ : (qI S3_320 p0 7).toInt = (qI S2_293 p0 7).toInt := congrArg Int32.toInt (f321_.kI (j := 7) k312_ (by decide) (by decide))
  have t323_ : (qI S3_320 p0 6).toInt = (qI S2_293 p0 6).toInt := congrArg Int32.toInt (f321_.kI (j := 6) k312_ (by decide) (by decide))
  have t324_ : (qN S3_320 (qO S3_320 p0 1) : Int) = (qN S2_293 (qO S2_293 p0 1) : Int) := f321_.kL (j := 1) y30_ k312_ (g.hts k312_).1.2.1 (by decide) (by decide)
  have t325_ : (qN S3_320 (qO S3_320 p0 0) : Int) = (qN S2_293 (qO S2_293 p0 0) : Int) := f321_.kL (j := 0) y30_ k312_ (g.hts k312_).1.1 (by decide) (by decide)
  have t326_ : (qN S3_320 (qO S3_320 p0 2) : Int) = (qN S2_293 (qO S2_293 p0 2) : Int) := f321_.kL (j := 2) y30_ k312_ (g.hts k312_).1.2.2 (by decide) (by decide)
  have t327_ : (qI S3_320 p2 4).toInt = (qI S2_293 p2 4).toInt := congrArg Int32.toInt (f321_.kI (j := 4) k314_ (by decide) (by decide))
  have t328_ : (qI S3_320 p2 9).toInt = (qI S2_293 p2 9).toInt := congrArg Int32.toInt (f321_.kI (j := 9) k314_ (by decide) (by decide))
  have t329_ : (qI S3_320 p2 2).toInt = (qI S2_293 p2 2).toInt := congrArg Int32.toInt (f321_.kI (j := 2) k314_ (by decide) (by decide))
  have t330_ : (qN S3_320 (qO S3_320 p2 1) : Int) = (qN S2_293 (qO S2_293 p2 1) : Int) := f321_.kL (j := 1) y30_ k314_ (g.row k314_).1.2.1 (by decide) (by decide)
  have t331_ : (qN S3_320 (qO S3_320 p2 8) : Int) = (qN S2_293 (qO S2_293 p2 8) : Int) := f321_.kL (j := 8) y30_ k314_ (g.row k314_).1.2.2.2.2.2.2 (by decide) (by decide)
  have t332_ : (qN S3_320 (qO S3_320 p2 7) : Int) = (qN S2_293 (qO S2_293 p2 7) : Int) := f321_.kL (j := 7) y30_ k314_ (g.row k314_).1.2.2.2.2.2.1 (by decide) (by decide)
  have t333_ : (qN S3_320 (qO S3_320 p2 0) : Int) = (qN S2_293 (qO S2_293 p2 0) : Int) := f321_.kL (j := 0) y30_ k314_ (g.row k314_).1.1 (by decide) (by decide)
  have t334_ : (qN S3_320 (qO S3_320 p2 6) : Int) = (qN S2_293 (qO S2_293 p2 6) : Int) := f321_.kL (j := 6) y30_ k314_ (g.row k314_).1.2.2.2.2.1 (by decide) (by decide)
  have t335_ : (qN S3_320 (qO S3_320 p2 3) : Int) = (qN S2_293 (qO S2_293 p2 3) : Int) := f321_.kL (j := 3) y30_ k314_ (g.row k314_).1.2.2.1 (by decide) (by decide)
  have t336_ : (qN S3_320 (qO S3_320 p2 5) : Int) = (qN S2_293 (qO S2_293 p2 5) : Int) := f321_.kL (j := 5) y30_ k314_ (g.row k314_).1.2.2.2.1 (by decide) (by decide)
  have o337_ : qO S3_320 p0 4 = qO S2_293 p0 4 := qO_eq (f321_.kO k312_ (by decide) (by decide))
  have t338_ : (qI S3_320 (qO S3_320 p0 4) 4).toInt = (qI S2_293 (qO S2_293 p0 4) 4).toInt := by rw [o337_]; exact congrArg Int32.toInt (f321_.kI (j := 4) (y30_.ref p315_ k312_) (by decide) (by decide))
  have t339_ : (qI S3_320 (qO S3_320 p0 4) 9).toInt = (qI S2_293 (qO S2_293 p0 4) 9).toInt := by rw [o337_]; exact congrArg Int32.toInt (f321_.kI (j := 9) (y30_.ref p315_ k312_) (by decide) (by decide))
  have t340_ : (qI S3_320 (qO S3_320 p0 4) 2).toInt = (qI S2_293 (qO S2_293 p0 4) 2).toInt := by rw [o337_]; exact congrArg Int32.toInt (f321_.kI (j := 2) (y30_.ref p315_ k312_) (by decide) (by decide))
  have t341_ : (qN S3_320 (qO S3_320 (qO S3_320 p0 4) 1) : Int) = (qN S2_293 (qO S2_293 (qO S2_293 p0 4) 1) : Int) := by rw [o337_]; exact f321_.kL (j := 1) y30_ (y30_.ref p315_ k312_) (g.row (y30_.ref p315_ k312_)).1.2.1 (by decide) (by decide)
  have t342_ : (qN S3_320 (qO S3_320 (qO S3_320 p0 4) 8) : Int) = (qN S2_293 (qO S2_293 (qO S2_293 p0 4) 8) : Int) := by rw [o337_]; exact f321_.kL (j := 8) y30_ (y30_.ref p315_ k312_) (g.row (y30_.ref p315_ k312_)).1.2.2.2.2.2.2 (by decide) (by decide)
  have t343_ : (qN S3_320 (qO S3_320 (qO S3_320 p0 4) 7) : Int) = (qN S2_293 (qO S2_293 (qO S2_293 p0 4) 7) : Int) := by rw [o337_]; exact f321_.kL (j := 7) y30_ (y30_.ref p315_ k312_) (g.row (y30_.ref p315_ k312_)).1.2.2.2.2.2.1 (by decide) (by decide)
  have t344_ : (qN S3_320 (qO S3_320 (qO S3_320 p0 4) 0) : Int) = (qN S2_293 (qO S2_293 (qO S2_293 p0 4) 0) : Int) := by rw [o337_]; exact f321_.kL (j := 0) y30_ (y30_.ref p315_ k312_) (g.row (y30_.ref p315_ k312_)).1.1 (by decide) (by decide)
  have t345_ : (qN S3_320 (qO S3_320 (qO S3_320 p0 4) 6) : Int) = (qN S2_293 (qO S2_293 (qO S2_293 p0 4) 6) : Int) := by rw [o337_]; exact f321_.kL (j := 6) y30_ (y30_.ref p315_ k312_) (g.row (y30_.ref p315_ k312_)).1.2.2.2.2.1 (by decide) (by decide)
  have t346_ : (qN S3_320 (qO S3_320 (qO S3_320 p0 4) 3) : Int) = (qN S2_293 (qO S2_293 (qO S2_293 p0 4) 3) : Int) := by rw [o337_]; exact f321_.kL (j := 3) y30_ (y30_.ref p315_ k312_) (g.row (y30_.ref p315_ k312_)).1.2.2.1 (by decide) (by decide)
  have t347_ : (qN S3_320 (qO S3_320 (qO S3_320 p0 4) 5) : Int) = (qN S2_293 (qO S2_293 (qO S2_293 p0 4) 5) : Int) := by rw [o337_]; exact f321_.kL (j := 5) y30_ (y30_.ref p315_ k312_) (g.row (y30_.ref p315_ k312_)).1.2.2.2.1 (by decide) (by decide)
  have p348_ : qR S3_320 p0 3 = some (qO S3_320 p0 3) := f321_.kP k312_ p311_ (by decide) (by decide)
  have p349_ : qR S3_320 p0 4 = some (qO S3_320 p0 4) := f321_.kP k312_ p315_ (by decide) (by decide)
  have k350_ : qT S3_320 p0 = 44 := f321_.1.T k312_ (by decide)
  have k351_ : qT S3_320 p1 = 49 := f321_.1.T k313_ (by decide)
  have k352_ : qT S3_320 p2 = 47 := f321_.1.T k314_ (by decide)
  have t353_ : (qI S3_320 p0 5).toInt = x3.toInt := by rw [eS3_320, qI_wI, if_pos ⟨rfl, rfl⟩]
  have g : ShC B S3_320 := ShC.ws y30_ g f321_ (by rw [eS3_320]; rfl) (by rw [eS3_320]; rfl) (by rw [eS3_320]; rfl) rfl rfl
  intro S4_354 eS4_354 y33_ y34_
  have f355_ : cfr [] [(44, 7)] S3_320 S4_354 := by rw [eS4_354]; exact cfr.oI y33_ (by decide)
  have t356_ : (qI S4_354 p0 6).toInt = (qI S3_320 p0 6).toInt := congrArg Int32.toInt (f355_.kI (j := 6) k350_ (by decide) (by decide))
  have t357_ : (qI S4_354 p0 5).toInt = (qI S3_320 p0 5).toInt := congrArg Int32.toInt (f355_.kI (j := 5) k350_ (by decide) (by decide))
  have t358_ : (qN S4_354 (qO S4_354 p0 1) : Int) = (qN S3_320 (qO S3_320 p0 1) : Int) := f355_.kL (j := 1) y32_ k350_ (g.hts k350_).1.2.1 (by decide) (by decide)
  have t359_ : (qN S4_354 (qO S4_354 p0 0) : Int) = (qN S3_320 (qO S3_320 p0 0) : Int) := f355_.kL (j := 0) y32_ k350_ (g.hts k350_).1.1 (by decide) (by decide)
  have t360_ : (qN S4_354 (qO S4_354 p0 2) : Int) = (qN S3_320 (qO S3_320 p0 2) : Int) := f355_.kL (j := 2) y32_ k350_ (g.hts k350_).1.2.2 (by decide) (by decide)
  have t361_ : (qI S4_354 p2 4).toInt = (qI S3_320 p2 4).toInt := congrArg Int32.toInt (f355_.kI (j := 4) k352_ (by decide) (by decide))
  have t362_ : (qI S4_354 p2 9).toInt = (qI S3_320 p2 9).toInt := congrArg Int32.toInt (f355_.kI (j := 9) k352_ (by decide) (by decide))
  have t363_ : (qI S4_354 p2 2).toInt = (qI S3_320 p2 2).toInt := congrArg Int32.toInt (f355_.kI (j := 2) k352_ (by decide) (by decide))
  have t364_ : (qN S4_354 (qO S4_354 p2 1) : Int) = (qN S3_320 (qO S3_320 p2 1) : Int) := f355_.kL (j := 1) y32_ k352_ (g.row k352_).1.2.1 (by decide) (by decide)
  have t365_ : (qN S4_354 (qO S4_354 p2 8) : Int) = (qN S3_320 (qO S3_320 p2 8) : Int) := f355_.kL (j := 8) y32_ k352_ (g.row k352_).1.2.2.2.2.2.2 (by decide) (by decide)
  have t366_ : (qN S4_354 (qO S4_354 p2 7) : Int) = (qN S3_320 (qO S3_320 p2 7) : Int) := f355_.kL (j := 7) y32_ k352_ (g.row k352_).1.2.2.2.2.2.1 (by decide) (by decide)
  have t367_ : (qN S4_354 (qO S4_354 p2 0) : Int) = (qN S3_320 (qO S3_320 p2 0) : Int) := f355_.kL (j := 0) y32_ k352_ (g.row k352_).1.1 (by decide) (by decide)
  have t368_ : (qN S4_354 (qO S4_354 p2 6) : Int) = (qN S3_320 (qO S3_320 p2 6) : Int) := f355_.kL (j := 6) y32_ k352_ (g.row k352_).1.2.2.2.2.1 (by decide) (by decide)
  have t369_ : (qN S4_354 (qO S4_354 p2 3) : Int) = (qN S3_320 (qO S3_320 p2 3) : Int) := f355_.kL (j := 3) y32_ k352_ (g.row k352_).1.2.2.1 (by decide) (by decide)
  have t370_ : (qN S4_354 (qO S4_354 p2 5) : Int) = (qN S3_320 (qO S3_320 p2 5) : Int) := f355_.kL (j := 5) y32_ k352_ (g.row k352_).1.2.2.2.1 (by decide) (by decide)
  have o371_ : qO S4_354 p0 4 = qO S3_320 p0 4 := qO_eq (f355_.kO k350_ (by decide) (by decide))
  have t372_ : (qI S4_354 (qO S4_354 p0 4) 4).toInt = (qI S3_320 (qO S3_320 p0 4) 4).toInt := by rw [o371_]; exact congrArg Int32.toInt (f355_.kI (j := 4) (y32_.ref p349_ k350_) (by decide) (by decide))
  have t373_ : (qI S4_354 (qO S4_354 p0 4) 9).toInt = (qI S3_320 (qO S3_320 p0 4) 9).toInt := by rw [o371_]; exact congrArg Int32.toInt (f355_.kI (j := 9) (y32_.ref p349_ k350_) (by decide) (by decide))
  have t374_ : (qI S4_354 (qO S4_354 p0 4) 2).toInt = (qI S3_320 (qO S3_320 p0 4) 2).toInt := by rw [o371_]; exact congrArg Int32.toInt (f355_.kI (j := 2) (y32_.ref p349_ k350_) (by decide) (by decide))
  have t375_ : (qN S4_354 (qO S4_354 (qO S4_354 p0 4) 1) : Int) = (qN S3_320 (qO S3_320 (qO S3_320 p0 4) 1) : Int) := by rw [o371_]; exact f355_.kL (j := 1) y32_ (y32_.ref p349_ k350_) (g.row (y32_.ref p349_ k350_)).1.2.1 (by decide) (by decide)
  have t376_ : (qN S4_354 (qO S4_354 (qO S4_354 p0 4) 8) : Int) = (qN S3_320 (qO S3_320 (qO S3_320 p0 4) 8) : Int) := by rw [o371_]; exact f355_.kL (j := 8) y32_ (y32_.ref p349_ k350_) (g.row (y32_.ref p349_ k350_)).1.2.2.2.2.2.2 (by decide) (by decide)
  have t377_ : (qN S4_354 (qO S4_354 (qO S4_354 p0 4) 7) : Int) = (qN S3_320 (qO S3_320 (qO S3_320 p0 4) 7) : Int) := by rw [o371_]; exact f355_.kL (j := 7) y32_ (y32_.ref p349_ k350_) (g.row (y32_.ref p349_ k350_)).1.2.2.2.2.2.1 (by decide) (by decide)
  have t378_ : (qN S4_354 (qO S4_354 (qO S4_354 p0 4) 0) : Int) = (qN S3_320 (qO S3_320 (qO S3_320 p0 4) 0) : Int) := by rw [o371_]; exact f355_.kL (j := 0) y32_ (y32_.ref p349_ k350_) (g.row (y32_.ref p349_ k350_)).1.1 (by decide) (by decide)
  have t379_ : (qN S4_354 (qO S4_354 (qO S4_354 p0 4) 6) : Int) = (qN S3_320 (qO S3_320 (qO S3_320 p0 4) 6) : Int) := by rw [o371_]; exact f355_.kL (j := 6) y32_ (y32_.ref p349_ k350_) (g.row (y32_.ref p349_ k350_)).1.2.2.2.2.1 (by decide) (by decide)
  have t380_ : (qN S4_354 (qO S4_354 (qO S4_354 p0 4) 3) : Int) = (qN S3_320 (qO S3_320 (qO S3_320 p0 4) 3) : Int) := by rw [o371_]; exact f355_.kL (j := 3) y32_ (y32_.ref p349_ k350_) (g.row (y32_.ref p349_ k350_)).1.2.2.1 (by decide) (by decide)
  have t381_ : (qN S4_354 (qO S4_354 (qO S4_354 p0 4) 5) : Int) = (qN S3_320 (qO S3_320 (qO S3_320 p0 4) 5) : Int) := by rw [o371_]; exact f355_.kL (j := 5) y32_ (y32_.ref p349_ k350_) (g.row (y32_.ref p349_ k350_)).1.2.2.2.1 (by decide) (by decide)
  have p382_ : qR S4_354 p0 3 = some (qO S4_354 p0 3) := f355_.kP k350_ p348_ (by decide) (by decide)
  have p383_ : qR S4_354 p0 4 = some (qO S4_354 p0 4) := f355_.kP k350_ p349_ (by decide) (by decide)
  have k384_ : qT S4_354 p0 = 44 := f355_.1.T k350_ (by decide)
  have k385_ : qT S4_354 p1 = 49 := f355_.1.T k351_ (by decide)
  have k386_ : qT S4_354 p2 = 47 := f355_.1.T k352_ (by decide)
  have t387_ : (qI S4_354 p0 7).toInt = (0 : Int32).toInt := by rw [eS4_354, qI_wI, if_pos ⟨rfl, rfl⟩]
  have g : ShC B S4_354 := ShC.ws y32_ g f355_ (by rw [eS4_354]; rfl) (by rw [eS4_354]; rfl) (by rw [eS4_354]; rfl) rfl rfl
  refine ⟨?_, ?_⟩
  · exact p383_
  intro y35_
  refine ⟨_, frX4_makeRoom y34_ (sgX4_makeRoom y34_ g y35_ (by have s389_ := (g.hts y35_).2; have s390_ := y34_.len9 (y34_.ref (g.hts y35_).1.1 y35_) (by decide); have s391_ := y34_.len9 (y34_.ref (g.hts y35_).1.2.1 y35_) (by decide); have s392_ := y34_.len9 (y34_.ref (g.hts y35_).1.2.2 y35_) (by decide); have s393_ := (g.unit k385_).2; have s394_ := (g.row k386_).2; have s395_ := (g.row (y34_.ref p383_ y35_)).2; have n1_ := rgI (qI S4_354 (qO S4_354 p0 4) 2); have n2_ := rgI (qI S p2 2); have n3_ := rgI (qI S3_320 p0 5); have n4_ := rgI x3; have n5_ := rgI (qI S4_354 p0 7); have n6_ := li_0k; omega)), ?_⟩
  intro S8_388 q36_ y37_ y38_
  have t396_ : (qI S8_388 p0 7).toInt = (qI S4_354 p0 7).toInt := congrArg Int32.toInt (q36_.2.kI (j := 7) y35_ (by decide) (by decide))
  have t397_ : (qI S8_388 p0 6).toInt = (qI S4_354 p0 6).toInt := congrArg Int32.toInt (q36_.2.kI (j := 6) y35_ (by decide) (by decide))
  have t398_ : (qI S8_388 p0 5).toInt = (qI S4_354 p0 5).toInt := congrArg Int32.toInt (q36_.2.kI (j := 5) y35_ (by decide) (by decide))
  have t399_ : (qI S8_388 p2 4).toInt = (qI S4_354 p2 4).toInt := congrArg Int32.toInt (q36_.2.kI (j := 4) k386_ (by decide) (by decide))
  have t400_ : (qI S8_388 p2 9).toInt = (qI S4_354 p2 9).toInt := congrArg Int32.toInt (q36_.2.kI (j := 9) k386_ (by decide) (by decide))
  have t401_ : (qI S8_388 p2 2).toInt = (qI S4_354 p2 2).toInt := congrArg Int32.toInt (q36_.2.kI (j := 2) k386_ (by decide) (by decide))
  have t402_ : (qN S8_388 (qO S8_388 p2 1) : Int) = (qN S4_354 (qO S4_354 p2 1) : Int) := q36_.2.kL (j := 1) y34_ k386_ (g.row k386_).1.2.1 (by decide) (by decide)
  have t403_ : (qN S8_388 (qO S8_388 p2 8) : Int) = (qN S4_354 (qO S4_354 p2 8) : Int) := q36_.2.kL (j := 8) y34_ k386_ (g.row k386_).1.2.2.2.2.2.2 (by decide) (by decide)
  have t404_ : (qN S8_388 (qO S8_388 p2 7) : Int) = (qN S4_354 (qO S4_354 p2 7) : Int) := q36_.2.kL (j := 7) y34_ k386_ (g.row k386_).1.2.2.2.2.2.1 (by decide) (by decide)
  have t405_ : (qN S8_388 (qO S8_388 p2 0) : Int) = (qN S4_354 (qO S4_354 p2 0) : Int) := q36_.2.kL (j := 0) y34_ k386_ (g.row k386_).1.1 (by decide) (by decide)
  have t406_ : (qN S8_388 (qO S8_388 p2 6) : Int) = (qN S4_354 (qO S4_354 p2 6) : Int) := q36_.2.kL (j := 6) y34_ k386_ (g.row k386_).1.2.2.2.2.1 (by decide) (by decide)
  have t407_ : (qN S8_388 (qO S8_388 p2 3) : Int) = (qN S4_354 (qO S4_354 p2 3) : Int) := q36_.2.kL (j := 3) y34_ k386_ (g.row k386_).1.2.2.1 (by decide) (by decide)
  have t408_ : (qN S8_388 (qO S8_388 p2 5) : Int) = (qN S4_354 (qO S4_354 p2 5) : Int) := q36_.2.kL (j := 5) y34_ k386_ (g.row k386_).1.2.2.2.1 (by decide) (by decide)
  have o409_ : qO S8_388 p0 4 = qO S4_354 p0 4 := qO_eq (q36_.2.kO y35_ (by decide) (by decide))
  have t410_ : (qI S8_388 (qO S8_388 p0 4) 4).toInt = (qI S4_354 (qO S4_354 p0 4) 4).toInt := by rw [o409_]; exact congrArg Int32.toInt (q36_.2.kI (j := 4) (y34_.ref p383_ y35_) (by decide) (by decide))
  have t411_ : (qI S8_388 (qO S8_388 p0 4) 9).toInt = (qI S4_354 (qO S4_354 p0 4) 9).toInt := by rw [o409_]; exact congrArg Int32.toInt (q36_.2.kI (j := 9) (y34_.ref p383_ y35_) (by decide) (by decide))
  have t412_ : (qI S8_388 (qO S8_388 p0 4) 2).toInt = (qI S4_354 (qO S4_354 p0 4) 2).toInt := by rw [o409_]; exact congrArg Int32.toInt (q36_.2.kI (j := 2) (y34_.ref p383_ y35_) (by decide) (by decide))
  have t413_ : (qN S8_388 (qO S8_388 (qO S8_388 p0 4) 1) : Int) = (qN S4_354 (qO S4_354 (qO S4_354 p0 4) 1) : Int) := by rw [o409_]; exact q36_.2.kL (j := 1) y34_ (y34_.ref p383_ y35_) (g.row (y34_.ref p383_ y35_)).1.2.1 (by decide) (by decide)
  have t414_ : (qN S8_388 (qO S8_388 (qO S8_388 p0 4) 8) : Int) = (qN S4_354 (qO S4_354 (qO S4_354 p0 4) 8) : Int) := by rw [o409_]; exact q36_.2.kL (j := 8) y34_ (y34_.ref p383_ y35_) (g.row (y34_.ref p383_ y35_)).1.2.2.2.2.2.2 (by decide) (by decide)
  have t415_ : (qN S8_388 (qO S8_388 (qO S8_388 p0 4) 7) : Int) = (qN S4_354 (qO S4_354 (qO S4_354 p0 4) 7) : Int) := by rw [o409_]; exact q36_.2.kL (j := 7) y34_ (y34_.ref p383_ y35_) (g.row (y34_.ref p383_ y35_)).1.2.2.2.2.2.1 (by decide) (by decide)
  have t416_ : (qN S8_388 (qO S8_388 (qO S8_388 p0 4) 0) : Int) = (qN S4_354 (qO S4_354 (qO S4_354 p0 4) 0) : Int) := by rw [o409_]; exact q36_.2.kL (j := 0) y34_ (y34_.ref p383_ y35_) (g.row (y34_.ref p383_ y35_)).1.1 (by decide) (by decide)
  have t417_ : (qN S8_388 (qO S8_388 (qO S8_388 p0 4) 6) : Int) = (qN S4_354 (qO S4_354 (qO S4_354 p0 4) 6) : Int) := by rw [o409_]; exact q36_.2.kL (j := 6) y34_ (y34_.ref p383_ y35_) (g.row (y34_.ref p383_ y35_)).1.2.2.2.2.1 (by decide) (by decide)
  have t418_ : (qN S8_388 (qO S8_388 (qO S8_388 p0 4) 3) : Int) = (qN S4_354 (qO S4_354 (qO S4_354 p0 4) 3) : Int) := by rw [o409_]; exact q36_.2.kL (j := 3) y34_ (y34_.ref p383_ y35_) (g.row (y34_.ref p383_ y35_)).1.2.2.1 (by decide) (by decide)
  have t419_ : (qN S8_388 (qO S8_388 (qO S8_388 p0 4) 5) : Int) = (qN S4_354 (qO S4_354 (qO S4_354 p0 4) 5) : Int) := by rw [o409_]; exact q36_.2.kL (j := 5) y34_ (y34_.ref p383_ y35_) (g.row (y34_.ref p383_ y35_)).1.2.2.2.1 (by decide) (by decide)
  have p420_ : qR S8_388 p0 3 = some (qO S8_388 p0 3) := q36_.2.kP y35_ p382_ (by decide) (by decide)
  have p421_ : qR S8_388 p0 4 = some (qO S8_388 p0 4) := q36_.2.kP y35_ p383_ (by decide) (by decide)
  have k422_ : qT S8_388 p0 = 44 := q36_.2.1.T y35_ (by decide)
  have k423_ : qT S8_388 p1 = 49 := q36_.2.1.T k385_ (by decide)
  have k424_ : qT S8_388 p2 = 47 := q36_.2.1.T k386_ (by decide)
  have g : ShC B S8_388 := q36_.1.1
  intro y39_
  refine ⟨_, frX4_comeTo y37_ (sgX4_comeTo y37_ g y39_ p421_), ?_⟩
  intro S12_425 q40_ y41_ y42_
  have t426_ : (qI S12_425 p0 7).toInt = (qI S8_388 p0 7).toInt := congrArg Int32.toInt (q40_.2.kI (j := 7) y39_ (by decide) (by decide))
  have t427_ : (qI S12_425 p0 5).toInt = (qI S8_388 p0 5).toInt := congrArg Int32.toInt (q40_.2.kI (j := 5) y39_ (by decide) (by decide))
  have t428_ : (qN S12_425 (qO S12_425 p0 1) : Int) = (qN S8_388 (qO S8_388 p0 1) : Int) := q40_.2.kL (j := 1) y37_ y39_ (g.hts y39_).1.2.1 (by decide) (by decide)
  have t429_ : (qN S12_425 (qO S12_425 p0 0) : Int) = (qN S8_388 (qO S8_388 p0 0) : Int) := q40_.2.kL (j := 0) y37_ y39_ (g.hts y39_).1.1 (by decide) (by decide)
  have t430_ : (qN S12_425 (qO S12_425 p0 2) : Int) = (qN S8_388 (qO S8_388 p0 2) : Int) := q40_.2.kL (j := 2) y37_ y39_ (g.hts y39_).1.2.2 (by decide) (by decide)
  have t431_ : (qI S12_425 p2 4).toInt = (qI S8_388 p2 4).toInt := congrArg Int32.toInt (q40_.2.kI (j := 4) k424_ (by decide) (by decide))
  have t432_ : (qI S12_425 p2 9).toInt = (qI S8_388 p2 9).toInt := congrArg Int32.toInt (q40_.2.kI (j := 9) k424_ (by decide) (by decide))
  have t433_ : (qI S12_425 p2 2).toInt = (qI S8_388 p2 2).toInt := congrArg Int32.toInt (q40_.2.kI (j := 2) k424_ (by decide) (by decide))
  have t434_ : (qN S12_425 (qO S12_425 p2 1) : Int) = (qN S8_388 (qO S8_388 p2 1) : Int) := q40_.2.kL (j := 1) y37_ k424_ (g.row k424_).1.2.1 (by decide) (by decide)
  have t435_ : (qN S12_425 (qO S12_425 p2 8) : Int) = (qN S8_388 (qO S8_388 p2 8) : Int) := q40_.2.kL (j := 8) y37_ k424_ (g.row k424_).1.2.2.2.2.2.2 (by decide) (by decide)
  have t436_ : (qN S12_425 (qO S12_425 p2 7) : Int) = (qN S8_388 (qO S8_388 p2 7) : Int) := q40_.2.kL (j := 7) y37_ k424_ (g.row k424_).1.2.2.2.2.2.1 (by decide) (by decide)
  have t437_ : (qN S12_425 (qO S12_425 p2 0) : Int) = (qN S8_388 (qO S8_388 p2 0) : Int) := q40_.2.kL (j := 0) y37_ k424_ (g.row k424_).1.1 (by decide) (by decide)
  have t438_ : (qN S12_425 (qO S12_425 p2 6) : Int) = (qN S8_388 (qO S8_388 p2 6) : Int) := q40_.2.kL (j := 6) y37_ k424_ (g.row k424_).1.2.2.2.2.1 (by decide) (by decide)
  have t439_ : (qN S12_425 (qO S12_425 p2 3) : Int) = (qN S8_388 (qO S8_388 p2 3) : Int) := q40_.2.kL (j := 3) y37_ k424_ (g.row k424_).1.2.2.1 (by decide) (by decide)
  have t440_ : (qN S12_425 (qO S12_425 p2 5) : Int) = (qN S8_388 (qO S8_388 p2 5) : Int) := q40_.2.kL (j := 5) y37_ k424_ (g.row k424_).1.2.2.2.1 (by decide) (by decide)
  have o441_ : qO S12_425 p0 4 = qO S8_388 p0 4 := qO_eq (q40_.2.kO y39_ (by decide) (by decide))
  have t442_ : (qI S12_425 (qO S12_425 p0 4) 4).toInt = (qI S8_388 (qO S8_388 p0 4) 4).toInt := by rw [o441_]; exact congrArg Int32.toInt (q40_.2.kI (j := 4) (y37_.ref p421_ y39_) (by decide) (by decide))
  have t443_ : (qI S12_425 (qO S12_425 p0 4) 9).toInt = (qI S8_388 (qO S8_388 p0 4) 9).toInt := by rw [o441_]; exact congrArg Int32.toInt (q40_.2.kI (j := 9) (y37_.ref p421_ y39_) (by decide) (by decide))
  have t444_ : (qI S12_425 (qO S12_425 p0 4) 2).toInt = (qI S8_388 (qO S8_388 p0 4) 2).toInt := by rw [o441_]; exact congrArg Int32.toInt (q40_.2.kI (j := 2) (y37_.ref p421_ y39_) (by decide) (by decide))
  have t445_ : (qN S12_425 (qO S12_425 (qO S12_425 p0 4) 1) : Int) = (qN S8_388 (qO S8_388 (qO S8_388 p0 4) 1) : Int) := by rw [o441_]; exact q40_.2.kL (j := 1) y37_ (y37_.ref p421_ y39_) (g.row (y37_.ref p421_ y39_)).1.2.1 (by decide) (by decide)
  have t446_ : (qN S12_425 (qO S12_425 (qO S12_425 p0 4) 8) : Int) = (qN S8_388 (qO S8_388 (qO S8_388 p0 4) 8) : Int) := by rw [o441_]; exact q40_.2.kL (j := 8) y37_ (y37_.ref p421_ y39_) (g.row (y37_.ref p421_ y39_)).1.2.2.2.2.2.2 (by decide) (by decide)
  have t447_ : (qN S12_425 (qO S12_425 (qO S12_425 p0 4) 7) : Int) = (qN S8_388 (qO S8_388 (qO S8_388 p0 4) 7) : Int) := by rw [o441_]; exact q40_.2.kL (j := 7) y37_ (y37_.ref p421_ y39_) (g.row (y37_.ref p421_ y39_)).1.2.2.2.2.2.1 (by decide) (by decide)
  have t448_ : (qN S12_425 (qO S12_425 (qO S12_425 p0 4) 0) : Int) = (qN S8_388 (qO S8_388 (qO S8_388 p0 4) 0) : Int) := by rw [o441_]; exact q40_.2.kL (j := 0) y37_ (y37_.ref p421_ y39_) (g.row (y37_.ref p421_ y39_)).1.1 (by decide) (by decide)
  have t449_ : (qN S12_425 (qO S12_425 (qO S12_425 p0 4) 6) : Int) = (qN S8_388 (qO S8_388 (qO S8_388 p0 4) 6) : Int) := by rw [o441_]; exact q40_.2.kL (j := 6) y37_ (y37_.ref p421_ y39_) (g.row (y37_.ref p421_ y39_)).1.2.2.2.2.1 (by decide) (by decide)
  have t450_ : (qN S12_425 (qO S12_425 (qO S12_425 p0 4) 3) : Int) = (qN S8_388 (qO S8_388 (qO S8_388 p0 4) 3) : Int) := by rw [o441_]; exact q40_.2.kL (j := 3) y37_ (y37_.ref p421_ y39_) (g.row (y37_.ref p421_ y39_)).1.2.2.1 (by decide) (by decide)
  have t451_ : (qN S12_425 (qO S12_425 (qO S12_425 p0 4) 5) : Int) = (qN S8_388 (qO S8_388 (qO S8_388 p0 4) 5) : Int) := by rw [o441_]; exact q40_.2.kL (j := 5) y37_ (y37_.ref p421_ y39_) (g.row (y37_.ref p421_ y39_)).1.2.2.2.1 (by decide) (by decide)
  have p452_ : qR S12_425 p0 3 = some (qO S12_425 p0 3) := q40_.2.kP y39_ p420_ (by decide) (by decide)
  have p453_ : qR S12_425 p0 4 = some (qO S12_425 p0 4) := q40_.2.kP y39_ p421_ (by decide) (by decide)
  have k454_ : qT S12_425 p0 = 44 := q40_.2.1.T y39_ (by decide)
  have k455_ : qT S12_425 p1 = 49 := q40_.2.1.T k423_ (by decide)
  have k456_ : qT S12_425 p2 = 47 := q40_.2.1.T k424_ (by decide)
  have g : ShC B S12_425 := q40_.1.1
  intro S14_457 eS14_457 y43_ y44_
  have f458_ : cfr [] [(44, 6)] S12_425 S14_457 := by rw [eS14_457]; exact cfr.oI y43_ (by decide)
  have t459_ : (qI S14_457 p0 7).toInt = (qI S12_425 p0 7).toInt := congrArg Int32.toInt (f458_.kI (j := 7) k454_ (by decide) (by decide))
  have t460_ : (qI S14_457 p0 5).toInt = (qI S12_425 p0 5).toInt := congrArg Int32.toInt (f458_.kI (j := 5) k454_ (by decide) (by decide))
  have t461_ : (qN S14_457 (qO S14_457 p0 1) : Int) = (qN S12_425 (qO S12_425 p0 1) : Int) := f458_.kL (j := 1) y41_ k454_ (g.hts k454_).1.2.1 (by decide) (by decide)
  have t462_ : (qN S14_457 (qO S14_457 p0 0) : Int) = (qN S12_425 (qO S12_425 p0 0) : Int) := f458_.kL (j := 0) y41_ k454_ (g.hts k454_).1.1 (by decide) (by decide)
  have t463_ : (qN S14_457 (qO S14_457 p0 2) : Int) = (qN S12_425 (qO S12_425 p0 2) : Int) := f458_.kL (j := 2) y41_ k454_ (g.hts k454_).1.2.2 (by decide) (by decide)
  have t464_ : (qI S14_457 p2 4).toInt = (qI S12_425 p2 4).toInt := congrArg Int32.toInt (f458_.kI (j := 4) k456_ (by decide) (by decide))
  have t465_ : (qI S14_457 p2 9).toInt = (qI S12_425 p2 9).toInt := congrArg Int32.toInt (f458_.kI (j := 9) k456_ (by decide) (by decide))
  have t466_ : (qI S14_457 p2 2).toInt = (qI S12_425 p2 2).toInt := congrArg Int32.toInt (f458_.kI (j := 2) k456_ (by decide) (by decide))
  have t467_ : (qN S14_457 (qO S14_457 p2 1) : Int) = (qN S12_425 (qO S12_425 p2 1) : Int) := f458_.kL (j := 1) y41_ k456_ (g.row k456_).1.2.1 (by decide) (by decide)
  have t468_ : (qN S14_457 (qO S14_457 p2 8) : Int) = (qN S12_425 (qO S12_425 p2 8) : Int) := f458_.kL (j := 8) y41_ k456_ (g.row k456_).1.2.2.2.2.2.2 (by decide) (by decide)
  have t469_ : (qN S14_457 (qO S14_457 p2 7) : Int) = (qN S12_425 (qO S12_425 p2 7) : Int) := f458_.kL (j := 7) y41_ k456_ (g.row k456_).1.2.2.2.2.2.1 (by decide) (by decide)
  have t470_ : (qN S14_457 (qO S14_457 p2 0) : Int) = (qN S12_425 (qO S12_425 p2 0) : Int) := f458_.kL (j := 0) y41_ k456_ (g.row k456_).1.1 (by decide) (by decide)
  have t471_ : (qN S14_457 (qO S14_457 p2 6) : Int) = (qN S12_425 (qO S12_425 p2 6) : Int) := f458_.kL (j := 6) y41_ k456_ (g.row k456_).1.2.2.2.2.1 (by decide) (by decide)
  have t472_ : (qN S14_457 (qO S14_457 p2 3) : Int) = (qN S12_425 (qO S12_425 p2 3) : Int) := f458_.kL (j := 3) y41_ k456_ (g.row k456_).1.2.2.1 (by decide) (by decide)
  have t473_ : (qN S14_457 (qO S14_457 p2 5) : Int) = (qN S12_425 (qO S12_425 p2 5) : Int) := f458_.kL (j := 5) y41_ k456_ (g.row k456_).1.2.2.2.1 (by decide) (by decide)
  have o474_ : qO S14_457 p0 4 = qO S12_425 p0 4 := qO_eq (f458_.kO k454_ (by decide) (by decide))
  have t475_ : (qI S14_457 (qO S14_457 p0 4) 4).toInt = (qI S12_425 (qO S12_425 p0 4) 4).toInt := by rw [o474_]; exact congrArg Int32.toInt (f458_.kI (j := 4) (y41_.ref p453_ k454_) (by decide) (by decide))
  have t476_ : (qI S14_457 (qO S14_457 p0 4) 9).toInt = (qI S12_425 (qO S12_425 p0 4) 9).toInt := by rw [o474_]; exact congrArg Int32.toInt (f458_.kI (j := 9) (y41_.ref p453_ k454_) (by decide) (by decide))
  have t477_ : (qI S14_457 (qO S14_457 p0 4) 2).toInt = (qI S12_425 (qO S12_425 p0 4) 2).toInt := by rw [o474_]; exact congrArg Int32.toInt (f458_.kI (j := 2) (y41_.ref p453_ k454_) (by decide) (by decide))
  have t478_ : (qN S14_457 (qO S14_457 (qO S14_457 p0 4) 1) : Int) = (qN S12_425 (qO S12_425 (qO S12_425 p0 4) 1) : Int) := by rw [o474_]; exact f458_.kL (j := 1) y41_ (y41_.ref p453_ k454_) (g.row (y41_.ref p453_ k454_)).1.2.1 (by decide) (by decide)
  have t479_ : (qN S14_457 (qO S14_457 (qO S14_457 p0 4) 8) : Int) = (qN S12_425 (qO S12_425 (qO S12_425 p0 4) 8) : Int) := by rw [o474_]; exact f458_.kL (j := 8) y41_ (y41_.ref p453_ k454_) (g.row (y41_.ref p453_ k454_)).1.2.2.2.2.2.2 (by decide) (by decide)
  have t480_ : (qN S14_457 (qO S14_457 (qO S14_457 p0 4) 7) : Int) = (qN S12_425 (qO S12_425 (qO S12_425 p0 4) 7) : Int) := by rw [o474_]; exact f458_.kL (j := 7) y41_ (y41_.ref p453_ k454_) (g.row (y41_.ref p453_ k454_)).1.2.2.2.2.2.1 (by decide) (by decide)
  have t481_ : (qN S14_457 (qO S14_457 (qO S14_457 p0 4) 0) : Int) = (qN S12_425 (qO S12_425 (qO S12_425 p0 4) 0) : Int) := by rw [o474_]; exact f458_.kL (j := 0) y41_ (y41_.ref p453_ k454_) (g.row (y41_.ref p453_ k454_)).1.1 (by decide) (by decide)
  have t482_ : (qN S14_457 (qO S14_457 (qO S14_457 p0 4) 6) : Int) = (qN S12_425 (qO S12_425 (qO S12_425 p0 4) 6) : Int) := by rw [o474_]; exact f458_.kL (j := 6) y41_ (y41_.ref p453_ k454_) (g.row (y41_.ref p453_ k454_)).1.2.2.2.2.1 (by decide) (by decide)
  have t483_ : (qN S14_457 (qO S14_457 (qO S14_457 p0 4) 3) : Int) = (qN S12_425 (qO S12_425 (qO S12_425 p0 4) 3) : Int) := by rw [o474_]; exact f458_.kL (j := 3) y41_ (y41_.ref p453_ k454_) (g.row (y41_.ref p453_ k454_)).1.2.2.1 (by decide) (by decide)
  have t484_ : (qN S14_457 (qO S14_457 (qO S14_457 p0 4) 5) : Int) = (qN S12_425 (qO S12_425 (qO S12_425 p0 4) 5) : Int) := by rw [o474_]; exact f458_.kL (j := 5) y41_ (y41_.ref p453_ k454_) (g.row (y41_.ref p453_ k454_)).1.2.2.2.1 (by decide) (by decide)
  have p485_ : qR S14_457 p0 3 = some (qO S14_457 p0 3) := f458_.kP k454_ p452_ (by decide) (by decide)
  have p486_ : qR S14_457 p0 4 = some (qO S14_457 p0 4) := f458_.kP k454_ p453_ (by decide) (by decide)
  have k487_ : qT S14_457 p0 = 44 := f458_.1.T k454_ (by decide)
  have k488_ : qT S14_457 p1 = 49 := f458_.1.T k455_ (by decide)
  have k489_ : qT S14_457 p2 = 47 := f458_.1.T k456_ (by decide)
  have t490_ : (qI S14_457 p0 6).toInt = (1 : Int32).toInt := by rw [eS14_457, qI_wI, if_pos ⟨rfl, rfl⟩]
  have g : ShC B S14_457 := ShC.ws y41_ g f458_ (by rw [eS14_457]; rfl) (by rw [eS14_457]; rfl) (by rw [eS14_457]; rfl) rfl rfl
  refine ⟨(2147483648 - (0 : Int32).toInt).toNat + 1, ?_⟩
  refine sg_X4_seek_L45  _ g p485_ p486_ ?_ ?_
  · have s491_ := (g.hts k487_).2
    have s492_ := y44_.len9 (y44_.ref (g.hts k487_).1.1 k487_) (by decide)
    have s493_ := y44_.len9 (y44_.ref (g.hts k487_).1.2.1 k487_) (by decide)
    have s494_ := y44_.len9 (y44_.ref (g.hts k487_).1.2.2 k487_) (by decide)
    have s495_ := (g.unit k488_).2
    have s496_ := (g.row k489_).2
    have s497_ := (g.row (y44_.ref p486_ k487_)).2
    have n1_ := li_0k
    have n2_ := rgI (qI S p2 2)
    have n3_ := rgI (qI S3_320 p0 5)
    have n4_ := rgI x3
    have n5_ := rgI (qI S4_354 p0 7)
    have n6_ := rgI (qI S14_457 p0 6)
    have n7_ := li_1k
    omega
  · have s498_ := (g.hts k487_).2
    have s499_ := y44_.len9 (y44_.ref (g.hts k487_).1.1 k487_) (by decide)
    have s500_ := y44_.len9 (y44_.ref (g.hts k487_).1.2.1 k487_) (by decide)
    have s501_ := y44_.len9 (y44_.ref (g.hts k487_).1.2.2 k487_) (by decide)
    have s502_ := (g.unit k488_).2
    have s503_ := (g.row k489_).2
    have s504_ := (g.row (y44_.ref p486_ k487_)).2
    have n1_ := li_0k
    have n2_ := rgI (qI S p2 2)
    have n3_ := rgI (qI S3_320 p0 5)
    have n4_ := rgI x3
    have n5_ := rgI (qI S4_354 p0 7)
    have n6_ := rgI (qI S14_457 p0 6)
    have n7_ := li_1k
    omega
