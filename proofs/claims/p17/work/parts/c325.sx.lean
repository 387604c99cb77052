/-! safety of the code's reader -/
theorem dd_X2_numberOf {S : MS} {y1 : Int64} : d_X2_numberOf S y1 := by
  have k0 := c_cmp (x := y1) (y := 0)
  have e0 : (0 : Int64).toInt = 0 := by decide
  have k2 := c_cmp (x := y1) (y := (1201 : Int32).toInt64)
  have e2 : ((1201 : Int32).toInt64).toInt = 1201 := by decide
  unfold d_X2_numberOf
  split
  · exact trivial
  · split
    · exact trivial
    · split
      · rename_i c1 c2 c3
        have h : 0 ≤ y1.toInt ∧ y1.toInt < 1201 := by omega
        have e := l32_small (d := y1) ⟨h.1, by omega⟩
        exact ⟨by rw [e]; exact h, trivial⟩
      · exact trivial
theorem dd_X2_isInstruction {S : MS} {y1 : Int64} : d_X2_isInstruction S y1 := by
  unfold d_X2_isInstruction
  split
  · exact trivial
  · refine ⟨dd_X2_numberOf, ?_⟩
    split
    · exact trivial
    · exact trivial
set_option maxRecDepth 100000 in
theorem dd_X6_errorName {S : MS} {x0 : Int32} : d_X6_errorName S x0 := by
  unfold d_X6_errorName
  exact trivial
set_option maxRecDepth 100000 in
theorem sfX2_set {S : MS} {x1 : Int32} {y2 : Int64} (hw : wfC S)  : wX2_set S x1 y2 (fun _ => True) := by
  have f : cfr [] [(42, 9), (42, 10)] S S := cfr.rf
  unfold wX2_set
  intro S1_0 eS1_0 y1_ y2_
  have f := f.tr (show cfr [] [(42, 9), (42, 10)] S S1_0 by rw [eS1_0]; exact cfr.oI y1_ (by decide))
  intro S2_1 eS2_1 y3_ y4_
  have f := f.tr (show cfr [] [(42, 9), (42, 10)] S1_0 S2_1 by rw [eS2_1]; exact cfr.oJ y3_ (by decide))
  exact trivial
set_option maxRecDepth 100000 in
theorem sfX2_decodeLocal {S : MS} {x1 : Int32} (hw : wfC S) (h9 : 0 ≤ (qI S 9 1).toInt) (hk9 : qT S 9 = 46) : wX2_decodeLocal S x1 (fun _ => True) := by
  have f : cfr [] [(42, 9), (42, 10)] S S := cfr.rf
  unfold wX2_decodeLocal
  refine ⟨?_, ?_⟩
  · exact dd_X2_u1
  intro a4_0 ea4_0 
  have ga4_0 := congrArg Int32.toInt ea4_0
  refine ⟨fun c1_ => ?_, fun c1_ => ?_⟩
  · refine ⟨?_, ?_⟩
    · exact dd_X2_u2 (by rw [f.kI (a := 9) (j := 1) hk9 (by decide) (by decide)]; exact h9)
    intro a62_2 ea62_2 
    have ga62_2 := congrArg Int32.toInt ea62_2
    refine ⟨?_, ?_⟩
    · exact dd_X2_u1
    refine ⟨fun c3_ => ?_, fun c3_ => ?_⟩
    · refine ⟨?_, ?_⟩
      · exact dd_X2_u1
      refine ⟨fun c4_ => ?_, fun c4_ => ?_⟩
      · refine ⟨?_, ?_⟩
        · exact dd_X2_u2 (by rw [f.kI (a := 9) (j := 1) hk9 (by decide) (by decide)]; exact h9)
        unfold w_X2_decodeLocal_J75
        intro y1_
        refine ⟨_, frX2_set y1_ (sfX2_set y1_ ), ?_⟩
        intro S68_5 q2_ y3_ y4_
        have f := f.tr (q2_.2.mo (by decide) (by decide))
        exact trivial
      · unfold w_X2_decodeLocal_J75
        intro y5_
        refine ⟨_, frX2_set y5_ (sfX2_set y5_ ), ?_⟩
        intro S68_6 q6_ y7_ y8_
        have f := f.tr (q6_.2.mo (by decide) (by decide))
        exact trivial
    · unfold w_X2_decodeLocal_J75
      intro y9_
      refine ⟨_, frX2_set y9_ (sfX2_set y9_ ), ?_⟩
      intro S68_7 q10_ y11_ y12_
      have f := f.tr (q10_.2.mo (by decide) (by decide))
      exact trivial
  · refine ⟨fun c8_ => ?_, fun c8_ => ?_⟩
    · refine ⟨?_, ?_⟩
      · exact dd_X2_u1
      refine ⟨?_, ?_⟩
      · exact dd_X2_u1
      refine ⟨_, frX2_set hw (sfX2_set hw ), ?_⟩
      intro S56_9 q13_ y14_ y15_
      have f := f.tr (q13_.2.mo (by decide) (by decide))
      exact trivial
    · refine ⟨?_, ?_⟩
      · exact dd_X6_usesLocal
      refine ⟨fun c10_ => ?_, fun c10_ => ?_⟩
      · refine ⟨fun c11_ => ?_, fun c11_ => ?_⟩
        · unfold w_X2_decodeLocal_J181
          intro y16_
          refine ⟨fun c12_ => ?_, fun c12_ => ?_⟩
          · unfold w_X2_decodeLocal_J207
            intro y17_
            refine ⟨fun c13_ => ?_, fun c13_ => ?_⟩
            · unfold w_X2_decodeLocal_J246
              intro y18_
              refine ⟨fun c14_ => ?_, fun c14_ => ?_⟩
              · exact trivial
              · refine ⟨fun c15_ => ?_, fun c15_ => ?_⟩
                · exact trivial
                · refine ⟨_, frX2_set y18_ (sfX2_set y18_ ), ?_⟩
                  intro S15_16 q19_ y20_ y21_
                  have f := f.tr (q19_.2.mo (by decide) (by decide))
                  exact trivial
            · refine ⟨fun c17_ => ?_, fun c17_ => ?_⟩
              · unfold w_X2_decodeLocal_J246
                intro y22_
                refine ⟨fun c18_ => ?_, fun c18_ => ?_⟩
                · exact trivial
                · refine ⟨fun c19_ => ?_, fun c19_ => ?_⟩
                  · exact trivial
                  · refine ⟨_, frX2_set y22_ (sfX2_set y22_ ), ?_⟩
                    intro S15_20 q23_ y24_ y25_
                    have f := f.tr (q23_.2.mo (by decide) (by decide))
                    exact trivial
              · refine ⟨fun c21_ => ?_, fun c21_ => ?_⟩
                · unfold w_X2_decodeLocal_J233
                  intro y26_
                  refine ⟨_, frX2_set y26_ (sfX2_set y26_ ), ?_⟩
                  intro S22_22 q27_ y28_ y29_
                  have f := f.tr (q27_.2.mo (by decide) (by decide))
                  exact trivial
                · unfold w_X2_decodeLocal_J233
                  intro y30_
                  refine ⟨_, frX2_set y30_ (sfX2_set y30_ ), ?_⟩
                  intro S22_23 q31_ y32_ y33_
                  have f := f.tr (q31_.2.mo (by decide) (by decide))
                  exact trivial
          · refine ⟨fun c24_ => ?_, fun c24_ => ?_⟩
            · unfold w_X2_decodeLocal_J207
              intro y34_
              refine ⟨fun c25_ => ?_, fun c25_ => ?_⟩
              · unfold w_X2_decodeLocal_J246
                intro y35_
                refine ⟨fun c26_ => ?_, fun c26_ => ?_⟩
                · exact trivial
                · refine ⟨fun c27_ => ?_, fun c27_ => ?_⟩
                  · exact trivial
                  · refine ⟨_, frX2_set y35_ (sfX2_set y35_ ), ?_⟩
                    intro S15_28 q36_ y37_ y38_
                    have f := f.tr (q36_.2.mo (by decide) (by decide))
                    exact trivial
              · refine ⟨fun c29_ => ?_, fun c29_ => ?_⟩
                · unfold w_X2_decodeLocal_J246
                  intro y39_
                  refine ⟨fun c30_ => ?_, fun c30_ => ?_⟩
                  · exact trivial
                  · refine ⟨fun c31_ => ?_, fun c31_ => ?_⟩
                    · exact trivial
                    · refine ⟨_, frX2_set y39_ (sfX2_set y39_ ), ?_⟩
                      intro S15_32 q40_ y41_ y42_
                      have f := f.tr (q40_.2.mo (by decide) (by decide))
                      exact trivial
                · refine ⟨fun c33_ => ?_, fun c33_ => ?_⟩
                  · unfold w_X2_decodeLocal_J233
                    intro y43_
                    refine ⟨_, frX2_set y43_ (sfX2_set y43_ ), ?_⟩
                    intro S22_34 q44_ y45_ y46_
                    have f := f.tr (q44_.2.mo (by decide) (by decide))
                    exact trivial
                  · unfold w_X2_decodeLocal_J233
                    intro y47_
                    refine ⟨_, frX2_set y47_ (sfX2_set y47_ ), ?_⟩
                    intro S22_35 q48_ y49_ y50_
                    have f := f.tr (q48_.2.mo (by decide) (by decide))
                    exact trivial
            · refine ⟨_, frX2_set y16_ (sfX2_set y16_ ), ?_⟩
              intro S29_36 q51_ y52_ y53_
              have f := f.tr (q51_.2.mo (by decide) (by decide))
              exact trivial
        · refine ⟨fun c37_ => ?_, fun c37_ => ?_⟩
          · unfold w_X2_decodeLocal_J181
            intro y54_
            refine ⟨fun c38_ => ?_, fun c38_ => ?_⟩
            · unfold w_X2_decodeLocal_J207
              intro y55_
              refine ⟨fun c39_ => ?_, fun c39_ => ?_⟩
              · unfold w_X2_decodeLocal_J246
                intro y56_
                refine ⟨fun c40_ => ?_, fun c40_ => ?_⟩
                · exact trivial
                · refine ⟨fun c41_ => ?_, fun c41_ => ?_⟩
                  · exact trivial
                  · refine ⟨_, frX2_set y56_ (sfX2_set y56_ ), ?_⟩
                    intro S15_42 q57_ y58_ y59_
                    have f := f.tr (q57_.2.mo (by decide) (by decide))
                    exact trivial
              · refine ⟨fun c43_ => ?_, fun c43_ => ?_⟩
                · unfold w_X2_decodeLocal_J246
                  intro y60_
                  refine ⟨fun c44_ => ?_, fun c44_ => ?_⟩
                  · exact trivial
                  · refine ⟨fun c45_ => ?_, fun c45_ => ?_⟩
                    · exact trivial
                    · refine ⟨_, frX2_set y60_ (sfX2_set y60_ ), ?_⟩
                      intro S15_46 q61_ y62_ y63_
                      have f := f.tr (q61_.2.mo (by decide) (by decide))
                      exact trivial
                · refine ⟨fun c47_ => ?_, fun c47_ => ?_⟩
                  · unfold w_X2_decodeLocal_J233
                    intro y64_
                    refine ⟨_, frX2_set y64_ (sfX2_set y64_ ), ?_⟩
                    intro S22_48 q65_ y66_ y67_
                    have f := f.tr (q65_.2.mo (by decide) (by decide))
                    exact trivial
                  · unfold w_X2_decodeLocal_J233
                    intro y68_
                    refine ⟨_, frX2_set y68_ (sfX2_set y68_ ), ?_⟩
                    intro S22_49 q69_ y70_ y71_
                    have f := f.tr (q69_.2.mo (by decide) (by decide))
                    exact trivial
            · refine ⟨fun c50_ => ?_, fun c50_ => ?_⟩
              · unfold w_X2_decodeLocal_J207
                intro y72_
                refine ⟨fun c51_ => ?_, fun c51_ => ?_⟩
                · unfold w_X2_decodeLocal_J246
                  intro y73_
                  refine ⟨fun c52_ => ?_, fun c52_ => ?_⟩
                  · exact trivial
                  · refine ⟨fun c53_ => ?_, fun c53_ => ?_⟩
                    · exact trivial
                    · refine ⟨_, frX2_set y73_ (sfX2_set y73_ ), ?_⟩
                      intro S15_54 q74_ y75_ y76_
                      have f := f.tr (q74_.2.mo (by decide) (by decide))
                      exact trivial
                · refine ⟨fun c55_ => ?_, fun c55_ => ?_⟩
                  · unfold w_X2_decodeLocal_J246
                    intro y77_
                    refine ⟨fun c56_ => ?_, fun c56_ => ?_⟩
                    · exact trivial
                    · refine ⟨fun c57_ => ?_, fun c57_ => ?_⟩
                      · exact trivial
                      · refine ⟨_, frX2_set y77_ (sfX2_set y77_ ), ?_⟩
                        intro S15_58 q78_ y79_ y80_
                        have f := f.tr (q78_.2.mo (by decide) (by decide))
                        exact trivial
                  · refine ⟨fun c59_ => ?_, fun c59_ => ?_⟩
                    · unfold w_X2_decodeLocal_J233
                      intro y81_
                      refine ⟨_, frX2_set y81_ (sfX2_set y81_ ), ?_⟩
                      intro S22_60 q82_ y83_ y84_
                      have f := f.tr (q82_.2.mo (by decide) (by decide))
                      exact trivial
                    · unfold w_X2_decodeLocal_J233
                      intro y85_
                      refine ⟨_, frX2_set y85_ (sfX2_set y85_ ), ?_⟩
                      intro S22_61 q86_ y87_ y88_
                      have f := f.tr (q86_.2.mo (by decide) (by decide))
                      exact trivial
              · refine ⟨_, frX2_set y54_ (sfX2_set y54_ ), ?_⟩
                intro S29_62 q89_ y90_ y91_
                have f := f.tr (q89_.2.mo (by decide) (by decide))
                exact trivial
          · refine ⟨fun c63_ => ?_, fun c63_ => ?_⟩
            · unfold w_X2_decodeLocal_J168
              intro y92_
              refine ⟨_, frX2_set y92_ (sfX2_set y92_ ), ?_⟩
              intro S36_64 q93_ y94_ y95_
              have f := f.tr (q93_.2.mo (by decide) (by decide))
              exact trivial
            · unfold w_X2_decodeLocal_J168
              intro y96_
              refine ⟨_, frX2_set y96_ (sfX2_set y96_ ), ?_⟩
              intro S36_65 q97_ y98_ y99_
              have f := f.tr (q97_.2.mo (by decide) (by decide))
              exact trivial
      · refine ⟨?_, ?_⟩
        · exact dd_X2_u1
        refine ⟨_, frX2_set hw (sfX2_set hw ), ?_⟩
        intro S44_66 q100_ y101_ y102_
        have f := f.tr (q100_.2.mo (by decide) (by decide))
        exact trivial
set_option maxRecDepth 100000 in
theorem sfX2_decode {S : MS} {x1 : Int32} (hw : wfC S) (h9 : 0 ≤ (qI S 9 1).toInt) (hk9 : qT S 9 = 46) : wX2_decode S x1 (fun _ => True) := by
  have f : cfr [] [(42, 9), (42, 10), (42, 11)] S S := cfr.rf
  unfold wX2_decode
  refine ⟨?_, ?_⟩
  · exact dd_X2_u1
  intro a4_0 ea4_0 
  have ga4_0 := congrArg Int32.toInt ea4_0
  intro S5_1 eS5_1 y1_ y2_
  have f := f.tr (show cfr [] [(42, 9), (42, 10), (42, 11)] S S5_1 by rw [eS5_1]; exact cfr.oI y1_ (by decide))
  intro S6_2 eS6_2 y3_ y4_
  have f := f.tr (show cfr [] [(42, 9), (42, 10), (42, 11)] S5_1 S6_2 by rw [eS6_2]; exact cfr.oI y3_ (by decide))
  intro S7_3 eS7_3 y5_ y6_
  have f := f.tr (show cfr [] [(42, 9), (42, 10), (42, 11)] S6_2 S7_3 by rw [eS7_3]; exact cfr.oJ y5_ (by decide))
  refine ⟨fun c4_ => ?_, fun c4_ => ?_⟩
  · unfold w_X2_decode_J45
    intro y7_
    refine ⟨fun c5_ => ?_, fun c5_ => ?_⟩
    · unfold w_X2_decode_J57
      intro y8_
      refine ⟨_, frX2_set y8_ (sfX2_set y8_ ), ?_⟩
      intro S10_6 q9_ y10_ y11_
      have f := f.tr (q9_.2.mo (by decide) (by decide))
      exact trivial
    · refine ⟨fun c7_ => ?_, fun c7_ => ?_⟩
      · unfold w_X2_decode_J57
        intro y12_
        refine ⟨_, frX2_set y12_ (sfX2_set y12_ ), ?_⟩
        intro S10_8 q13_ y14_ y15_
        have f := f.tr (q13_.2.mo (by decide) (by decide))
        exact trivial
      · refine ⟨fun c9_ => ?_, fun c9_ => ?_⟩
        · refine ⟨?_, ?_⟩
          · exact dd_X2_u1
          refine ⟨_, frX2_set y7_ (sfX2_set y7_ ), ?_⟩
          intro S82_10 q16_ y17_ y18_
          have f := f.tr (q16_.2.mo (by decide) (by decide))
          exact trivial
        · refine ⟨fun c11_ => ?_, fun c11_ => ?_⟩
          · refine ⟨?_, ?_⟩
            · exact dd_X2_u2 (by rw [f.kI (a := 9) (j := 1) hk9 (by decide) (by decide)]; exact h9)
            refine ⟨_, frX2_set y7_ (sfX2_set y7_ ), ?_⟩
            intro S75_12 q19_ y20_ y21_
            have f := f.tr (q19_.2.mo (by decide) (by decide))
            exact trivial
          · refine ⟨fun c13_ => ?_, fun c13_ => ?_⟩
            · refine ⟨?_, ?_⟩
              · exact dd_X2_u1
              refine ⟨_, frX2_set y7_ (sfX2_set y7_ ), ?_⟩
              intro S68_14 q22_ y23_ y24_
              have f := f.tr (q22_.2.mo (by decide) (by decide))
              exact trivial
            · refine ⟨fun c15_ => ?_, fun c15_ => ?_⟩
              · refine ⟨?_, ?_⟩
                · exact dd_X2_s4 (by rw [f.kI (a := 9) (j := 1) hk9 (by decide) (by decide)]; exact h9)
                refine ⟨_, frX2_set y7_ (sfX2_set y7_ ), ?_⟩
                intro S61_16 q25_ y26_ y27_
                have f := f.tr (q25_.2.mo (by decide) (by decide))
                exact trivial
              · refine ⟨?_, ?_⟩
                · exact dd_X6_isJump
                refine ⟨fun c17_ => ?_, fun c17_ => ?_⟩
                · refine ⟨?_, ?_⟩
                  · exact dd_X6_isSwitch
                  refine ⟨fun c18_ => ?_, fun c18_ => ?_⟩
                  · refine ⟨?_, ?_⟩
                    · exact dd_X6_lengthOf
                    refine ⟨fun c19_ => ?_, fun c19_ => ?_⟩
                    · refine ⟨fun c20_ => ?_, fun c20_ => ?_⟩
                      · unfold w_X2_decode_J247
                        intro y28_
                        refine ⟨_, frX2_decodeLocal y28_ (sfX2_decodeLocal y28_  (by rw [f.kI (a := 9) (j := 1) hk9 (by decide) (by decide)]; exact h9) (f.1.T hk9 (by decide))), ?_⟩
                        intro S30_21 q29_ y30_ y31_
                        have f := f.tr (q29_.2.mo (by decide) (by decide))
                        exact trivial
                      · refine ⟨?_, ?_⟩
                        · exact dd_X2_u2 (by rw [f.kI (a := 9) (j := 1) hk9 (by decide) (by decide)]; exact h9)
                        refine ⟨_, frX2_set y7_ (sfX2_set y7_ ), ?_⟩
                        intro S39_22 q32_ y33_ y34_
                        have f := f.tr (q32_.2.mo (by decide) (by decide))
                        exact trivial
                    · unfold w_X2_decode_J247
                      intro y35_
                      refine ⟨_, frX2_decodeLocal y35_ (sfX2_decodeLocal y35_  (by rw [f.kI (a := 9) (j := 1) hk9 (by decide) (by decide)]; exact h9) (f.1.T hk9 (by decide))), ?_⟩
                      intro S30_23 q36_ y37_ y38_
                      have f := f.tr (q36_.2.mo (by decide) (by decide))
                      exact trivial
                  · refine ⟨?_, ?_⟩
                    · exact dd_X2_numbersOf
                    refine ⟨_, frX2_set y7_ (sfX2_set y7_ ), ?_⟩
                    intro S45_24 q39_ y40_ y41_
                    have f := f.tr (q39_.2.mo (by decide) (by decide))
                    exact trivial
                · refine ⟨?_, ?_⟩
                  · exact dd_X2_u2 (by rw [f.kI (a := 9) (j := 1) hk9 (by decide) (by decide)]; exact h9)
                  refine ⟨_, frX2_set y7_ (sfX2_set y7_ ), ?_⟩
                  intro S53_25 q42_ y43_ y44_
                  have f := f.tr (q42_.2.mo (by decide) (by decide))
                  exact trivial
  · refine ⟨fun c26_ => ?_, fun c26_ => ?_⟩
    · unfold w_X2_decode_J45
      intro y45_
      refine ⟨fun c27_ => ?_, fun c27_ => ?_⟩
      · unfold w_X2_decode_J57
        intro y46_
        refine ⟨_, frX2_set y46_ (sfX2_set y46_ ), ?_⟩
        intro S10_28 q47_ y48_ y49_
        have f := f.tr (q47_.2.mo (by decide) (by decide))
        exact trivial
      · refine ⟨fun c29_ => ?_, fun c29_ => ?_⟩
        · unfold w_X2_decode_J57
          intro y50_
          refine ⟨_, frX2_set y50_ (sfX2_set y50_ ), ?_⟩
          intro S10_30 q51_ y52_ y53_
          have f := f.tr (q51_.2.mo (by decide) (by decide))
          exact trivial
        · refine ⟨fun c31_ => ?_, fun c31_ => ?_⟩
          · refine ⟨?_, ?_⟩
            · exact dd_X2_u1
            refine ⟨_, frX2_set y45_ (sfX2_set y45_ ), ?_⟩
            intro S82_32 q54_ y55_ y56_
            have f := f.tr (q54_.2.mo (by decide) (by decide))
            exact trivial
          · refine ⟨fun c33_ => ?_, fun c33_ => ?_⟩
            · refine ⟨?_, ?_⟩
              · exact dd_X2_u2 (by rw [f.kI (a := 9) (j := 1) hk9 (by decide) (by decide)]; exact h9)
              refine ⟨_, frX2_set y45_ (sfX2_set y45_ ), ?_⟩
              intro S75_34 q57_ y58_ y59_
              have f := f.tr (q57_.2.mo (by decide) (by decide))
              exact trivial
            · refine ⟨fun c35_ => ?_, fun c35_ => ?_⟩
              · refine ⟨?_, ?_⟩
                · exact dd_X2_u1
                refine ⟨_, frX2_set y45_ (sfX2_set y45_ ), ?_⟩
                intro S68_36 q60_ y61_ y62_
                have f := f.tr (q60_.2.mo (by decide) (by decide))
                exact trivial
              · refine ⟨fun c37_ => ?_, fun c37_ => ?_⟩
                · refine ⟨?_, ?_⟩
                  · exact dd_X2_s4 (by rw [f.kI (a := 9) (j := 1) hk9 (by decide) (by decide)]; exact h9)
                  refine ⟨_, frX2_set y45_ (sfX2_set y45_ ), ?_⟩
                  intro S61_38 q63_ y64_ y65_
                  have f := f.tr (q63_.2.mo (by decide) (by decide))
                  exact trivial
                · refine ⟨?_, ?_⟩
                  · exact dd_X6_isJump
                  refine ⟨fun c39_ => ?_, fun c39_ => ?_⟩
                  · refine ⟨?_, ?_⟩
                    · exact dd_X6_isSwitch
                    refine ⟨fun c40_ => ?_, fun c40_ => ?_⟩
                    · refine ⟨?_, ?_⟩
                      · exact dd_X6_lengthOf
                      refine ⟨fun c41_ => ?_, fun c41_ => ?_⟩
                      · refine ⟨fun c42_ => ?_, fun c42_ => ?_⟩
                        · unfold w_X2_decode_J247
                          intro y66_
                          refine ⟨_, frX2_decodeLocal y66_ (sfX2_decodeLocal y66_  (by rw [f.kI (a := 9) (j := 1) hk9 (by decide) (by decide)]; exact h9) (f.1.T hk9 (by decide))), ?_⟩
                          intro S30_43 q67_ y68_ y69_
                          have f := f.tr (q67_.2.mo (by decide) (by decide))
                          exact trivial
                        · refine ⟨?_, ?_⟩
                          · exact dd_X2_u2 (by rw [f.kI (a := 9) (j := 1) hk9 (by decide) (by decide)]; exact h9)
                          refine ⟨_, frX2_set y45_ (sfX2_set y45_ ), ?_⟩
                          intro S39_44 q70_ y71_ y72_
                          have f := f.tr (q70_.2.mo (by decide) (by decide))
                          exact trivial
                      · unfold w_X2_decode_J247
                        intro y73_
                        refine ⟨_, frX2_decodeLocal y73_ (sfX2_decodeLocal y73_  (by rw [f.kI (a := 9) (j := 1) hk9 (by decide) (by decide)]; exact h9) (f.1.T hk9 (by decide))), ?_⟩
                        intro S30_45 q74_ y75_ y76_
                        have f := f.tr (q74_.2.mo (by decide) (by decide))
                        exact trivial
                    · refine ⟨?_, ?_⟩
                      · exact dd_X2_numbersOf
                      refine ⟨_, frX2_set y45_ (sfX2_set y45_ ), ?_⟩
                      intro S45_46 q77_ y78_ y79_
                      have f := f.tr (q77_.2.mo (by decide) (by decide))
                      exact trivial
                  · refine ⟨?_, ?_⟩
                    · exact dd_X2_u2 (by rw [f.kI (a := 9) (j := 1) hk9 (by decide) (by decide)]; exact h9)
                    refine ⟨_, frX2_set y45_ (sfX2_set y45_ ), ?_⟩
                    intro S53_47 q80_ y81_ y82_
                    have f := f.tr (q80_.2.mo (by decide) (by decide))
                    exact trivial
    · refine ⟨_, frX2_set y6_ (sfX2_set y6_ ), ?_⟩
      intro S88_48 q83_ y84_ y85_
      have f := f.tr (q83_.2.mo (by decide) (by decide))
      exact trivial
set_option maxRecDepth 100000 in
theorem sf_X2_targetsHold_L14 {S0 : MS} (h9 : 0 ≤ (qI S0 9 1).toInt) (hk9 : qT S0 9 = 46) : ∀ (n : Nat) {U14 : MS} {v14_1 : Int32} {v14_2 : Int32} {v14_3 : Int32}, cfr [] [] S0 U14 → 2147483648 - v14_3.toInt < n → w_X2_targetsHold_L14 (fun _ _ => True) n U14 v14_1 v14_2 v14_3 := by
  intro n
  induction n with
  | zero => intro U14 v14_1 v14_2 v14_3 f  hm_; exfalso; have := rgI v14_1; have := rgI v14_2; have := rgI v14_3; omega
  | succ n ih14 =>
    intro U14 v14_1 v14_2 v14_3 f  hm_
    unfold w_X2_targetsHold_L14
    intro y1_
    refine ⟨fun c0_ => ?_, fun c0_ => ?_⟩
    · exact trivial
    · refine ⟨?_, ?_⟩
      · exact dd_X2_switchTarget (by rw [f.kI (a := 9) (j := 1) hk9 (by decide) (by decide)]; exact h9)
      intro a10_1 ea10_1 
      refine ⟨?_, ?_⟩
      · exact dd_X2_isInstruction
      intro a14_2 ea14_2 
      have ga14_2 := congrArg Int32.toInt ea14_2
      refine ⟨fun c3_ => ?_, fun c3_ => ?_⟩
      · exact trivial
      · intro a16_4 ea16_4 
        have ga16_4 := congrArg Int32.toInt ea16_4
        refine ih14 f  ?_
        · have n1_ := rgI a16_4
          have n2_ := rgI v14_3
          have n3_ := rgI v14_2
          have n4_ := rgI a14_2
          have n5_ := rgI (fX2_isInstruction U14 a10_1)
          have n7_ := lo_1
          have n7_ := t_addD (a := v14_3) (b := Int32.ofInt 1)
          have n8_ := rgI (v14_3 + Int32.ofInt 1)
          omega
set_option maxRecDepth 100000 in
theorem sfX2_targetsHold {S : MS} (hw : wfC S) (h9 : 0 ≤ (qI S 9 1).toInt) (hk9 : qT S 9 = 46) : wX2_targetsHold S (fun _ _ => True) := by
  have f : cfr [] [] S S := cfr.rf
  unfold wX2_targetsHold
  intro a1_5 ea1_5 
  have ga1_5 := congrArg Int32.toInt ea1_5
  refine ⟨?_, ?_⟩
  · exact dd_X2_switchCount (by rw [f.kI (a := 9) (j := 1) hk9 (by decide) (by decide)]; exact h9)
  intro a5_6 ea5_6 
  have ga5_6 := congrArg Int32.toInt ea5_6
  refine ⟨(2147483648 - (-1 : Int32).toInt).toNat + 1, ?_⟩
  refine sf_X2_targetsHold_L14 h9 hk9 _ f  ?_
  · have n1_ := li_m1
    have n2_ := rgI a1_5
    have n3_ := rgI ((qJ S 8 10).toInt32)
    have n4_ := rgI a5_6
    have n5_ := rgI (fX2_switchCount S a1_5)
    omega
set_option maxRecDepth 100000 in
theorem sf_X2_errorOf_L8 {S0 : MS} (h9 : 0 ≤ (qI S0 9 1).toInt) (hk9 : qT S0 9 = 46) : ∀ (n : Nat) {U8 : MS} {v8_1 : Int32} {v8_2 : Int32}, cfr [] [] S0 U8 → 2147483648 - v8_2.toInt < n → w_X2_errorOf_L8 (fun _ _ => True) n U8 v8_1 v8_2 := by
  intro n
  induction n with
  | zero => intro U8 v8_1 v8_2 f  hm_; exfalso; have := rgI v8_1; have := rgI v8_2; omega
  | succ n ih8 =>
    intro U8 v8_1 v8_2 f  hm_
    unfold w_X2_errorOf_L8
    intro y1_
    refine ⟨fun c0_ => ?_, fun c0_ => ?_⟩
    · exact trivial
    · refine ⟨?_, ?_⟩
      · exact dd_X7_tagOf
      intro a6_1 ea6_1 
      have ga6_1 := congrArg Int32.toInt ea6_1
      refine ⟨fun c2_ => ?_, fun c2_ => ?_⟩
      · refine ⟨?_, ?_⟩
        · exact dd_X7_firstOf (by rw [f.kI (a := 9) (j := 1) hk9 (by decide) (by decide)]; exact h9)
        intro a12_3 ea12_3 
        have ga12_3 := congrArg Int32.toInt ea12_3
        refine ⟨?_, ?_⟩
        · exact dd_X6_errorName
        intro y2_
        refine ⟨_, frX7_isText y1_ (sfX7_isText y1_  (by rw [f.kI (a := 9) (j := 1) hk9 (by decide) (by decide)]; exact h9) (f.1.T hk9 (by decide)) y2_), ?_⟩
        intro r17_4 S18_4 q3_ y4_ y5_
        have f := f.tr (q3_.2.mo (by decide) (by decide))
        refine ⟨fun c5_ => ?_, fun c5_ => ?_⟩
        · unfold w_X2_errorOf_J50
          intro y6_
          intro a7_6 ea7_6 
          have ga7_6 := congrArg Int32.toInt ea7_6
          refine ih8 f  ?_
          · have n1_ := rgI a7_6
            have n2_ := rgI v8_2
            have n3_ := rgI a6_1
            have n4_ := rgI (fX7_tagOf U8 v8_1)
            have n5_ := rgI a12_3
            have n6_ := rgI (fX7_firstOf U8 v8_1)
            have n7_ := rgI r17_4
            have n9_ := lo_1
            have n9_ := t_addD (a := v8_2) (b := Int32.ofInt 1)
            have n10_ := rgI (v8_2 + Int32.ofInt 1)
            omega
        · exact trivial
      · unfold w_X2_errorOf_J50
        intro y7_
        intro a7_7 ea7_7 
        have ga7_7 := congrArg Int32.toInt ea7_7
        refine ih8 f  ?_
        · have n1_ := rgI a7_7
          have n2_ := rgI v8_2
          have n3_ := rgI a6_1
          have n4_ := rgI (fX7_tagOf U8 v8_1)
          have n6_ := lo_1
          have n6_ := t_addD (a := v8_2) (b := Int32.ofInt 1)
          have n7_ := rgI (v8_2 + Int32.ofInt 1)
          omega
set_option maxRecDepth 100000 in
theorem sfX2_errorOf {S : MS} {x1 : Int32} (hw : wfC S) (h9 : 0 ≤ (qI S 9 1).toInt) (hk9 : qT S 9 = 46) : wX2_errorOf S x1 (fun _ _ => True) := by
  have f : cfr [] [] S S := cfr.rf
  unfold wX2_errorOf
  refine ⟨fun c8_ => ?_, fun c8_ => ?_⟩
  · exact trivial
  · refine ⟨(2147483648 - (0 : Int32).toInt).toNat + 1, ?_⟩
    refine sf_X2_errorOf_L8 h9 hk9 _ f  ?_
    · have n1_ := li_0
      have n2_ := rgI x1
      omega
set_option maxRecDepth 100000 in
theorem sf_X2_memberOf_L123 {S0 : MS} (h9 : 0 ≤ (qI S0 9 1).toInt) (hk9 : qT S0 9 = 46) : ∀ (n : Nat) {U123 : MS} {v123_4 : Int32} {v123_5 : Int32} {v123_6 : Int32} {v123_7 : Int32}, cfr [] [] S0 U123 → 2147483648 - v123_7.toInt < n → w_X2_memberOf_L123 (fun _ _ => True) n U123 v123_4 v123_5 v123_6 v123_7 := by
  intro n
  induction n with
  | zero => intro U123 v123_4 v123_5 v123_6 v123_7 f  hm_; exfalso; have := rgI v123_4; have := rgI v123_5; have := rgI v123_6; have := rgI v123_7; omega
  | succ n ih123 =>
    intro U123 v123_4 v123_5 v123_6 v123_7 f  hm_
    unfold w_X2_memberOf_L123
    intro y1_
    refine ⟨fun c0_ => ?_, fun c0_ => ?_⟩
    · exact trivial
    · refine ⟨?_, ?_⟩
      · exact dd_X7_nameOf (by rw [f.kI (a := 9) (j := 1) hk9 (by decide) (by decide)]; exact h9)
      intro a37_1 ea37_1 
      have ga37_1 := congrArg Int32.toInt ea37_1
      refine ⟨?_, ?_⟩
      · exact dd_X7_firstOf (by rw [f.kI (a := 9) (j := 1) hk9 (by decide) (by decide)]; exact h9)
      intro a41_2 ea41_2 
      have ga41_2 := congrArg Int32.toInt ea41_2
      refine ⟨_, frX7_isSameName y1_ (sfX7_isSameName y1_  (by rw [f.kI (a := 9) (j := 1) hk9 (by decide) (by decide)]; exact h9) (f.1.T hk9 (by decide))), ?_⟩
      intro r43_3 S44_3 q2_ y3_ y4_
      have f := f.tr (q2_.2.mo (by decide) (by decide))
      refine ⟨fun c4_ => ?_, fun c4_ => ?_⟩
      · unfold w_X2_memberOf_J195
        intro y5_
        intro a46_5 ea46_5 
        have ga46_5 := congrArg Int32.toInt ea46_5
        refine ih123 f  ?_
        · have n1_ := rgI a46_5
          have n2_ := rgI v123_7
          have n3_ := rgI v123_6
          have n4_ := rgI a37_1
          have n5_ := rgI (fX7_nameOf U123 (v123_5 + v123_7))
          have n6_ := rgI a41_2
          have n7_ := rgI (fX7_firstOf U123 v123_4)
          have n8_ := rgI r43_3
          have n10_ := lo_1
          have n10_ := t_addD (a := v123_7) (b := Int32.ofInt 1)
          have n11_ := rgI (v123_7 + Int32.ofInt 1)
          omega
      · refine ⟨?_, ?_⟩
        · exact dd_X7_typeOf (by rw [f.kI (a := 9) (j := 1) hk9 (by decide) (by decide)]; exact h9)
        intro a52_6 ea52_6 
        have ga52_6 := congrArg Int32.toInt ea52_6
        refine ⟨?_, ?_⟩
        · exact dd_X7_secondOf (by rw [f.kI (a := 9) (j := 1) hk9 (by decide) (by decide)]; exact h9)
        intro a56_7 ea56_7 
        have ga56_7 := congrArg Int32.toInt ea56_7
        refine ⟨_, frX7_isSameName y3_ (sfX7_isSameName y3_  (by rw [f.kI (a := 9) (j := 1) hk9 (by decide) (by decide)]; exact h9) (f.1.T hk9 (by decide))), ?_⟩
        intro r58_8 S59_8 q6_ y7_ y8_
        have f := f.tr (q6_.2.mo (by decide) (by decide))
        refine ⟨fun c9_ => ?_, fun c9_ => ?_⟩
        · unfold w_X2_memberOf_J195
          intro y9_
          intro a46_10 ea46_10 
          have ga46_10 := congrArg Int32.toInt ea46_10
          refine ih123 f  ?_
          · have n1_ := rgI a46_10
            have n2_ := rgI v123_7
            have n3_ := rgI v123_6
            have n4_ := rgI a37_1
            have n5_ := rgI (fX7_nameOf U123 (v123_5 + v123_7))
            have n6_ := rgI a41_2
            have n7_ := rgI (fX7_firstOf U123 v123_4)
            have n8_ := rgI r43_3
            have n9_ := rgI a52_6
            have n10_ := rgI (fX7_typeOf S44_3 (v123_5 + v123_7))
            have n11_ := rgI a56_7
            have n12_ := rgI (fX7_secondOf S44_3 v123_4)
            have n13_ := rgI r58_8
            have n15_ := lo_1
            have n15_ := t_addD (a := v123_7) (b := Int32.ofInt 1)
            have n16_ := rgI (v123_7 + Int32.ofInt 1)
            omega
        · exact trivial
set_option maxRecDepth 100000 in
theorem sfX2_memberOf {S : MS} {x1 : Int32} {x2 : Int32} (hw : wfC S) (h9 : 0 ≤ (qI S 9 1).toInt) (hk9 : qT S 9 = 46) : wX2_memberOf S x1 x2 (fun _ _ => True) := by
  have f : cfr [] [] S S := cfr.rf
  unfold wX2_memberOf
  refine ⟨?_, ?_⟩
  · exact dd_X7_tagOf
  intro a4_11 ea4_11 
  have ga4_11 := congrArg Int32.toInt ea4_11
  refine ⟨fun c12_ => ?_, fun c12_ => ?_⟩
  · refine ⟨?_, ?_⟩
    · exact dd_X7_u2 (by rw [f.kI (a := 9) (j := 1) hk9 (by decide) (by decide)]; exact h9)
    intro a10_13 ea10_13 
    have ga10_13 := congrArg Int32.toInt ea10_13
    refine ⟨?_, ?_⟩
    · exact dd_X7_firstOf (by rw [f.kI (a := 9) (j := 1) hk9 (by decide) (by decide)]; exact h9)
    intro a14_14 ea14_14 
    have ga14_14 := congrArg Int32.toInt ea14_14
    refine ⟨?_, ?_⟩
    · exact dd_X7_firstOf (by rw [f.kI (a := 9) (j := 1) hk9 (by decide) (by decide)]; exact h9)
    intro a18_15 ea18_15 
    have ga18_15 := congrArg Int32.toInt ea18_15
    refine ⟨?_, ?_⟩
    · exact dd_X7_firstOf (by rw [f.kI (a := 9) (j := 1) hk9 (by decide) (by decide)]; exact h9)
    intro a22_16 ea22_16 
    have ga22_16 := congrArg Int32.toInt ea22_16
    refine ⟨_, frX7_isSameName hw (sfX7_isSameName hw  (by rw [f.kI (a := 9) (j := 1) hk9 (by decide) (by decide)]; exact h9) (f.1.T hk9 (by decide))), ?_⟩
    intro r24_17 S25_17 q10_ y11_ y12_
    have f := f.tr (q10_.2.mo (by decide) (by decide))
    refine ⟨fun c18_ => ?_, fun c18_ => ?_⟩
    · exact trivial
    · refine ⟨?_, ?_⟩
      · exact dd_X7_secondOf (by rw [f.kI (a := 9) (j := 1) hk9 (by decide) (by decide)]; exact h9)
      intro a31_19 ea31_19 
      have ga31_19 := congrArg Int32.toInt ea31_19
      refine ⟨fun c20_ => ?_, fun c20_ => ?_⟩
      · unfold w_X2_memberOf_J93
        intro y13_
        refine ⟨fun c21_ => ?_, fun c21_ => ?_⟩
        · unfold w_X2_memberOf_J118
          intro y14_
          refine ⟨(2147483648 - (0 : Int32).toInt).toNat + 1, ?_⟩
          refine sf_X2_memberOf_L123 h9 hk9 _ f  ?_
          · have n1_ := li_0
            have n2_ := rgI a4_11
            have n3_ := rgI (fX7_tagOf S x1)
            have n4_ := rgI x2
            have n5_ := rgI a10_13
            have n6_ := rgI (fX7_u2 S ((qI S 9 6) + (2 : Int32)))
            have n7_ := rgI a14_14
            have n8_ := rgI (fX7_firstOf S x1)
            have n9_ := rgI a18_15
            have n10_ := rgI (fX7_firstOf S a14_14)
            have n11_ := rgI a22_16
            have n12_ := rgI (fX7_firstOf S a10_13)
            have n13_ := rgI r24_17
            have n14_ := rgI a31_19
            have n15_ := rgI (fX7_secondOf S25_17 x1)
            omega
        · unfold w_X2_memberOf_J118
          intro y15_
          refine ⟨(2147483648 - (0 : Int32).toInt).toNat + 1, ?_⟩
          refine sf_X2_memberOf_L123 h9 hk9 _ f  ?_
          · have n1_ := li_0
            have n2_ := rgI a4_11
            have n3_ := rgI (fX7_tagOf S x1)
            have n4_ := rgI x2
            have n5_ := rgI a10_13
            have n6_ := rgI (fX7_u2 S ((qI S 9 6) + (2 : Int32)))
            have n7_ := rgI a14_14
            have n8_ := rgI (fX7_firstOf S x1)
            have n9_ := rgI a18_15
            have n10_ := rgI (fX7_firstOf S a14_14)
            have n11_ := rgI a22_16
            have n12_ := rgI (fX7_firstOf S a10_13)
            have n13_ := rgI r24_17
            have n14_ := rgI a31_19
            have n15_ := rgI (fX7_secondOf S25_17 x1)
            omega
      · unfold w_X2_memberOf_J93
        intro y16_
        refine ⟨fun c22_ => ?_, fun c22_ => ?_⟩
        · unfold w_X2_memberOf_J118
          intro y17_
          refine ⟨(2147483648 - (0 : Int32).toInt).toNat + 1, ?_⟩
          refine sf_X2_memberOf_L123 h9 hk9 _ f  ?_
          · have n1_ := li_0
            have n2_ := rgI a4_11
            have n3_ := rgI (fX7_tagOf S x1)
            have n4_ := rgI x2
            have n5_ := rgI a10_13
            have n6_ := rgI (fX7_u2 S ((qI S 9 6) + (2 : Int32)))
            have n7_ := rgI a14_14
            have n8_ := rgI (fX7_firstOf S x1)
            have n9_ := rgI a18_15
            have n10_ := rgI (fX7_firstOf S a14_14)
            have n11_ := rgI a22_16
            have n12_ := rgI (fX7_firstOf S a10_13)
            have n13_ := rgI r24_17
            have n14_ := rgI a31_19
            have n15_ := rgI (fX7_secondOf S25_17 x1)
            omega
        · unfold w_X2_memberOf_J118
          intro y18_
          refine ⟨(2147483648 - (0 : Int32).toInt).toNat + 1, ?_⟩
          refine sf_X2_memberOf_L123 h9 hk9 _ f  ?_
          · have n1_ := li_0
            have n2_ := rgI a4_11
            have n3_ := rgI (fX7_tagOf S x1)
            have n4_ := rgI x2
            have n5_ := rgI a10_13
            have n6_ := rgI (fX7_u2 S ((qI S 9 6) + (2 : Int32)))
            have n7_ := rgI a14_14
            have n8_ := rgI (fX7_firstOf S x1)
            have n9_ := rgI a18_15
            have n10_ := rgI (fX7_firstOf S a14_14)
            have n11_ := rgI a22_16
            have n12_ := rgI (fX7_firstOf S a10_13)
            have n13_ := rgI r24_17
            have n14_ := rgI a31_19
            have n15_ := rgI (fX7_secondOf S25_17 x1)
            omega
  · exact trivial
set_option maxRecDepth 100000 in
theorem sfX2_pointsWell {S : MS} (hw : wfC S) (h9 : 0 ≤ (qI S 9 1).toInt) (hk9 : qT S 9 = 46) : wX2_pointsWell S (fun _ _ => True) := by
  have f : cfr [] [] S S := cfr.rf
  unfold wX2_pointsWell
  refine ⟨?_, ?_⟩
  · exact dd_X6_isJump
  refine ⟨fun c0_ => ?_, fun c0_ => ?_⟩
  · refine ⟨?_, ?_⟩
    · exact dd_X6_isSwitch
    refine ⟨fun c1_ => ?_, fun c1_ => ?_⟩
    · refine ⟨?_, ?_⟩
      · exact dd_X6_usesLocal
      refine ⟨fun c2_ => ?_, fun c2_ => ?_⟩
      · refine ⟨fun c3_ => ?_, fun c3_ => ?_⟩
        · refine ⟨?_, ?_⟩
          · exact dd_X7_tagOf
          refine ⟨fun c4_ => ?_, fun c4_ => ?_⟩
          · exact trivial
          · exact trivial
        · refine ⟨fun c5_ => ?_, fun c5_ => ?_⟩
          · refine ⟨?_, ?_⟩
            · exact dd_X7_tagOf
            refine ⟨fun c6_ => ?_, fun c6_ => ?_⟩
            · exact trivial
            · exact trivial
          · refine ⟨fun c7_ => ?_, fun c7_ => ?_⟩
            · unfold w_X2_pointsWell_J172
              intro y1_
              refine ⟨_, frX2_memberOf y1_ (sfX2_memberOf y1_  (by rw [f.kI (a := 9) (j := 1) hk9 (by decide) (by decide)]; exact h9) (f.1.T hk9 (by decide))), ?_⟩
              intro r14_8 S15_8 q2_ y3_ y4_
              have f := f.tr (q2_.2.mo (by decide) (by decide))
              refine ⟨fun c9_ => ?_, fun c9_ => ?_⟩
              · exact trivial
              · exact trivial
            · refine ⟨fun c10_ => ?_, fun c10_ => ?_⟩
              · unfold w_X2_pointsWell_J172
                intro y5_
                refine ⟨_, frX2_memberOf y5_ (sfX2_memberOf y5_  (by rw [f.kI (a := 9) (j := 1) hk9 (by decide) (by decide)]; exact h9) (f.1.T hk9 (by decide))), ?_⟩
                intro r14_11 S15_11 q6_ y7_ y8_
                have f := f.tr (q6_.2.mo (by decide) (by decide))
                refine ⟨fun c12_ => ?_, fun c12_ => ?_⟩
                · exact trivial
                · exact trivial
              · refine ⟨fun c13_ => ?_, fun c13_ => ?_⟩
                · refine ⟨_, frX2_memberOf hw (sfX2_memberOf hw  (by rw [f.kI (a := 9) (j := 1) hk9 (by decide) (by decide)]; exact h9) (f.1.T hk9 (by decide))), ?_⟩
                  intro r27_14 S28_14 q9_ y10_ y11_
                  have f := f.tr (q9_.2.mo (by decide) (by decide))
                  refine ⟨fun c15_ => ?_, fun c15_ => ?_⟩
                  · exact trivial
                  · exact trivial
                · exact trivial
      · refine ⟨?_, ?_⟩
        · exact dd_X6_localWidth
        refine ⟨fun c16_ => ?_, fun c16_ => ?_⟩
        · exact trivial
        · exact trivial
    · refine ⟨_, frX2_targetsHold hw (sfX2_targetsHold hw  (by rw [f.kI (a := 9) (j := 1) hk9 (by decide) (by decide)]; exact h9) (f.1.T hk9 (by decide))), ?_⟩
      intro r38_17 S39_17 q12_ y13_ y14_
      have f := f.tr (q12_.2.mo (by decide) (by decide))
      exact trivial
  · refine ⟨?_, ?_⟩
    · exact dd_X2_isInstruction
    exact trivial
set_option maxRecDepth 100000 in
theorem sfX2_catchHolds {S : MS} {x1 : Int32} (hw : wfC S) (h9 : 0 ≤ (qI S 9 1).toInt) (hk9 : qT S 9 = 46) : wX2_catchHolds S x1 (fun _ _ => True) := by
  have f : cfr [] [] S S := cfr.rf
  unfold wX2_catchHolds
  refine ⟨?_, ?_⟩
  · exact dd_X7_u2 (by rw [f.kI (a := 9) (j := 1) hk9 (by decide) (by decide)]; exact h9)
  intro a4_0 ea4_0 
  have ga4_0 := congrArg Int32.toInt ea4_0
  refine ⟨?_, ?_⟩
  · exact dd_X7_u2 (by rw [f.kI (a := 9) (j := 1) hk9 (by decide) (by decide)]; exact h9)
  intro a9_1 ea9_1 
  have ga9_1 := congrArg Int32.toInt ea9_1
  refine ⟨?_, ?_⟩
  · exact dd_X2_isInstruction
  intro a13_2 ea13_2 
  have ga13_2 := congrArg Int32.toInt ea13_2
  refine ⟨fun c3_ => ?_, fun c3_ => ?_⟩
  · unfold w_X2_catchHolds_J84
    intro y1_
    exact trivial
  · refine ⟨?_, ?_⟩
    · exact dd_X2_numberOf
    intro a18_4 ea18_4 
    have ga18_4 := congrArg Int32.toInt ea18_4
    refine ⟨fun c5_ => ?_, fun c5_ => ?_⟩
    · unfold w_X2_catchHolds_J84
      intro y2_
      exact trivial
    · refine ⟨fun c6_ => ?_, fun c6_ => ?_⟩
      · unfold w_X2_catchHolds_J84
        intro y3_
        exact trivial
      · refine ⟨?_, ?_⟩
        · exact dd_X7_u2 (by rw [f.kI (a := 9) (j := 1) hk9 (by decide) (by decide)]; exact h9)
        intro a25_7 ea25_7 
        have ga25_7 := congrArg Int32.toInt ea25_7
        refine ⟨?_, ?_⟩
        · exact dd_X2_isInstruction
        intro a29_8 ea29_8 
        have ga29_8 := congrArg Int32.toInt ea29_8
        refine ⟨fun c9_ => ?_, fun c9_ => ?_⟩
        · unfold w_X2_catchHolds_J84
          intro y4_
          exact trivial
        · refine ⟨?_, ?_⟩
          · exact dd_X7_u2 (by rw [f.kI (a := 9) (j := 1) hk9 (by decide) (by decide)]; exact h9)
          intro a35_10 ea35_10 
          have ga35_10 := congrArg Int32.toInt ea35_10
          refine ⟨_, frX2_errorOf hw (sfX2_errorOf hw  (by rw [f.kI (a := 9) (j := 1) hk9 (by decide) (by decide)]; exact h9) (f.1.T hk9 (by decide))), ?_⟩
          intro r37_11 S38_11 q5_ y6_ y7_
          have f := f.tr (q5_.2.mo (by decide) (by decide))
          refine ⟨fun c12_ => ?_, fun c12_ => ?_⟩
          · unfold w_X2_catchHolds_J84
            intro y8_
            exact trivial
          · exact trivial
set_option maxRecDepth 100000 in
theorem sf_X2_catchesHold_L90 {S0 : MS} (h9 : 0 ≤ (qI S0 9 1).toInt) (hk9 : qT S0 9 = 46) : ∀ (n : Nat) {U90 : MS} {v90_2 : Int32} {v90_4 : Int32} {v90_5 : Int32} {v90_6 : Int32}, cfr [] [(46, 2), (46, 3)] S0 U90 → 2147483648 - v90_6.toInt < n → w_X2_catchesHold_L90 (fun _ _ => True) n U90 v90_2 v90_4 v90_5 v90_6 := by
  intro n
  induction n with
  | zero => intro U90 v90_2 v90_4 v90_5 v90_6 f  hm_; exfalso; have := rgI v90_2; have := rgI v90_4; have := rgI v90_5; have := rgI v90_6; omega
  | succ n ih90 =>
    intro U90 v90_2 v90_4 v90_5 v90_6 f  hm_
    unfold w_X2_catchesHold_L90
    intro y1_
    refine ⟨fun c0_ => ?_, fun c0_ => ?_⟩
    · refine ⟨fun c1_ => ?_, fun c1_ => ?_⟩
      · unfold w_X2_catchesHold_J185
        intro y2_
        exact trivial
      · refine ⟨_, frX7_breaks y1_ (sfX7_breaks y1_ ), ?_⟩
        intro r22_2 S23_2 q3_ y4_ y5_
        have f := f.tr (q3_.2.mo (by decide) (by decide))
        refine ⟨fun c3_ => ?_, fun c3_ => ?_⟩
        · exact trivial
        · unfold w_X2_catchesHold_J185
          intro y6_
          exact trivial
    · refine ⟨fun c4_ => ?_, fun c4_ => ?_⟩
      · unfold w_X2_catchesHold_J129
        intro y7_
        refine ⟨_, frX7_breaks y7_ (sfX7_breaks y7_ ), ?_⟩
        intro r28_5 S29_5 q8_ y9_ y10_
        have f := f.tr (q8_.2.mo (by decide) (by decide))
        exact trivial
      · refine ⟨?_, ?_⟩
        · exact dd_X7_u4 (by rw [f.kI (a := 9) (j := 1) hk9 (by decide) (by decide)]; exact h9)
        refine ⟨fun c6_ => ?_, fun c6_ => ?_⟩
        · refine ⟨?_, ?_⟩
          · exact dd_X7_s4 (by rw [f.kI (a := 9) (j := 1) hk9 (by decide) (by decide)]; exact h9)
          intro a46_7 ea46_7 
          have ga46_7 := congrArg Int32.toInt ea46_7
          intro a47_8 ea47_8 
          have ga47_8 := congrArg Int32.toInt ea47_8
          refine ih90 f  ?_
          · have n1_ := rgI a47_8
            have n2_ := rgI v90_6
            have n3_ := rgI v90_5
            have n4_ := rgI v90_2
            have n6_ := rgI v90_4
            have n7_ := li_6
            have n7_ := t_addD (a := v90_4) (b := (6 : Int32))
            have n8_ := rgI (v90_4 + (6 : Int32))
            have n9_ := rgI (lg_cmp (fX7_u4 U90 (v90_4 + (2 : Int32))) (((v90_2 - v90_4) - (6 : Int32)).toInt64))
            have n10_ := rgI a46_7
            have n13_ := rgI (fX7_s4 U90 (v90_4 + (2 : Int32)))
            have n13_ := t_addD (a := (6 : Int32)) (b := (fX7_s4 U90 (v90_4 + (2 : Int32))))
            have n14_ := rgI ((6 : Int32) + (fX7_s4 U90 (v90_4 + (2 : Int32))))
            have n14_ := t_addD (a := v90_4) (b := ((6 : Int32) + (fX7_s4 U90 (v90_4 + (2 : Int32)))))
            have n15_ := rgI (v90_4 + ((6 : Int32) + (fX7_s4 U90 (v90_4 + (2 : Int32)))))
            have n17_ := lo_1
            have n17_ := t_addD (a := v90_6) (b := Int32.ofInt 1)
            have n18_ := rgI (v90_6 + Int32.ofInt 1)
            omega
        · unfold w_X2_catchesHold_J129
          intro y11_
          refine ⟨_, frX7_breaks y11_ (sfX7_breaks y11_ ), ?_⟩
          intro r28_9 S29_9 q12_ y13_ y14_
          have f := f.tr (q12_.2.mo (by decide) (by decide))
          exact trivial
set_option maxRecDepth 100000 in
theorem sfX2_catchesHold {S : MS} {x1 : Int32} {x2 : Int32} (hw : wfC S) (h9 : 0 ≤ (qI S 9 1).toInt) (hk9 : qT S 9 = 46) : wX2_catchesHold S x1 x2 (fun _ _ => True) := by
  have f : cfr [] [(46, 2), (46, 3)] S S := cfr.rf
  unfold wX2_catchesHold
  refine ⟨fun c10_ => ?_, fun c10_ => ?_⟩
  · refine ⟨?_, ?_⟩
    · exact dd_X7_u2 (by rw [f.kI (a := 9) (j := 1) hk9 (by decide) (by decide)]; exact h9)
    intro a6_11 ea6_11 
    have ga6_11 := congrArg Int32.toInt ea6_11
    refine ⟨fun c12_ => ?_, fun c12_ => ?_⟩
    · intro a11_13 ea11_13 
      have ga11_13 := congrArg Int32.toInt ea11_13
      refine ⟨fun c14_ => ?_, fun c14_ => ?_⟩
      · refine ⟨?_, ?_⟩
        · exact dd_X7_u2 (by rw [f.kI (a := 9) (j := 1) hk9 (by decide) (by decide)]; exact h9)
        intro a17_15 ea17_15 
        have ga17_15 := congrArg Int32.toInt ea17_15
        intro a18_16 ea18_16 
        have ga18_16 := congrArg Int32.toInt ea18_16
        refine ⟨(2147483648 - (0 : Int32).toInt).toNat + 1, ?_⟩
        refine sf_X2_catchesHold_L90 h9 hk9 _ f  ?_
        · have n1_ := li_0
          have n3_ := rgI x1
          have n4_ := li_2
          have n4_ := t_addD (a := x1) (b := (2 : Int32))
          have n5_ := rgI (x1 + (2 : Int32))
          have n6_ := rgI x2
          have n7_ := rgI a6_11
          have n8_ := rgI (fX7_u2 S x1)
          have n9_ := rgI a11_13
          have n11_ := rgI ((8 : Int32) * a6_11)
          have n11_ := t_addD (a := (x1 + (2 : Int32))) (b := ((8 : Int32) * a6_11))
          have n12_ := rgI ((x1 + (2 : Int32)) + ((8 : Int32) * a6_11))
          have n13_ := t_addD (a := a11_13) (b := (2 : Int32))
          have n14_ := rgI (a11_13 + (2 : Int32))
          have n15_ := rgI a17_15
          have n16_ := rgI (fX7_u2 S a11_13)
          have n17_ := rgI a18_16
          have n19_ := lo_2
          have n19_ := t_addD (a := a11_13) (b := Int32.ofInt 2)
          have n20_ := rgI (a11_13 + Int32.ofInt 2)
          omega
      · refine ⟨_, frX7_breaks hw (sfX7_breaks hw ), ?_⟩
        intro r49_17 S50_17 q15_ y16_ y17_
        have f := f.tr (q15_.2.mo (by decide) (by decide))
        exact trivial
    · refine ⟨_, frX7_breaks hw (sfX7_breaks hw ), ?_⟩
      intro r53_18 S54_18 q18_ y19_ y20_
      have f := f.tr (q18_.2.mo (by decide) (by decide))
      exact trivial
  · refine ⟨_, frX7_breaks hw (sfX7_breaks hw ), ?_⟩
    intro r57_19 S58_19 q21_ y22_ y23_
    have f := f.tr (q21_.2.mo (by decide) (by decide))
    exact trivial
set_option maxRecDepth 100000 in
theorem sfX2_headHolds {S : MS} {x1 : Int32} {x2 : Int32} {x3 : Int32} (hw : wfC S) (h9 : 0 ≤ (qI S 9 1).toInt) (hk9 : qT S 9 = 46) : wX2_headHolds S x1 x2 x3 (fun _ _ => True) := by
  have f : cfr [] [(46, 2), (46, 3)] S S := cfr.rf
  unfold wX2_headHolds
  refine ⟨fun c0_ => ?_, fun c0_ => ?_⟩
  · refine ⟨?_, ?_⟩
    · exact dd_X7_u2 (by rw [f.kI (a := 9) (j := 1) hk9 (by decide) (by decide)]; exact h9)
    refine ⟨fun c1_ => ?_, fun c1_ => ?_⟩
    · refine ⟨fun c2_ => ?_, fun c2_ => ?_⟩
      · refine ⟨?_, ?_⟩
        · exact dd_X7_u2 (by rw [f.kI (a := 9) (j := 1) hk9 (by decide) (by decide)]; exact h9)
        refine ⟨fun c3_ => ?_, fun c3_ => ?_⟩
        · unfold w_X2_headHolds_J89
          intro y1_
          refine ⟨_, frX7_breaks y1_ (sfX7_breaks y1_ ), ?_⟩
          intro r15_4 S16_4 q2_ y3_ y4_
          have f := f.tr (q2_.2.mo (by decide) (by decide))
          exact trivial
        · refine ⟨?_, ?_⟩
          · exact dd_X7_u2 (by rw [f.kI (a := 9) (j := 1) hk9 (by decide) (by decide)]; exact h9)
          refine ⟨fun c5_ => ?_, fun c5_ => ?_⟩
          · refine ⟨fun c6_ => ?_, fun c6_ => ?_⟩
            · refine ⟨?_, ?_⟩
              · exact dd_X7_u4 (by rw [f.kI (a := 9) (j := 1) hk9 (by decide) (by decide)]; exact h9)
              intro a30_7 ea30_7 
              refine ⟨fun c8_ => ?_, fun c8_ => ?_⟩
              · unfold w_X2_headHolds_J149
                intro y5_
                refine ⟨_, frX7_breaks y5_ (sfX7_breaks y5_ ), ?_⟩
                intro r34_9 S35_9 q6_ y7_ y8_
                have f := f.tr (q6_.2.mo (by decide) (by decide))
                exact trivial
              · refine ⟨fun c10_ => ?_, fun c10_ => ?_⟩
                · refine ⟨_, frX2_catchesHold hw (sfX2_catchesHold hw  (by rw [f.kI (a := 9) (j := 1) hk9 (by decide) (by decide)]; exact h9) (f.1.T hk9 (by decide))), ?_⟩
                  intro r43_11 S44_11 q9_ y10_ y11_
                  have f := f.tr (q9_.2.mo (by decide) (by decide))
                  exact trivial
                · unfold w_X2_headHolds_J149
                  intro y12_
                  refine ⟨_, frX7_breaks y12_ (sfX7_breaks y12_ ), ?_⟩
                  intro r34_12 S35_12 q13_ y14_ y15_
                  have f := f.tr (q13_.2.mo (by decide) (by decide))
                  exact trivial
            · refine ⟨_, frX7_breaks hw (sfX7_breaks hw ), ?_⟩
              intro r47_13 S48_13 q16_ y17_ y18_
              have f := f.tr (q16_.2.mo (by decide) (by decide))
              exact trivial
          · unfold w_X2_headHolds_J89
            intro y19_
            refine ⟨_, frX7_breaks y19_ (sfX7_breaks y19_ ), ?_⟩
            intro r15_14 S16_14 q20_ y21_ y22_
            have f := f.tr (q20_.2.mo (by decide) (by decide))
            exact trivial
      · refine ⟨_, frX7_breaks hw (sfX7_breaks hw ), ?_⟩
        intro r51_15 S52_15 q23_ y24_ y25_
        have f := f.tr (q23_.2.mo (by decide) (by decide))
        exact trivial
    · refine ⟨_, frX7_breaks hw (sfX7_breaks hw ), ?_⟩
      intro r55_16 S56_16 q26_ y27_ y28_
      have f := f.tr (q26_.2.mo (by decide) (by decide))
      exact trivial
  · refine ⟨_, frX7_breaks hw (sfX7_breaks hw ), ?_⟩
    intro r59_17 S60_17 q29_ y30_ y31_
    have f := f.tr (q29_.2.mo (by decide) (by decide))
    exact trivial
