theorem cfr.kN {K : List Nat} {F : List (Nat × Nat)} {S u : MS} {a j t : Nat} (f : cfr K F S u) (w : wfC S) (hk : qT S a = t) (hK : K.contains t = false) (hF : F.contains (t, j) = false) (hm : (a, j) ∈ ptrC) : (qN u (qO u a j) : Int) = (qN S (qO S a j) : Int) := by
  have p := w.ptr hm
  have h0 : qT S a ≠ 0 := w.pto _ hm
  have e := (f.2.2 a j h0 (by rw [hk]; exact hK) (by rw [hk]; exact hF)).2.2
  have o : qO u a j = qO S a j := by unfold qO; rw [e]
  have kb := w.rf3 a j _ p
  rw [o, (f.1.1 _ (by rw [kb.1]; exact kb.2.1)).2]
set_option maxRecDepth 100000 in
theorem sfX1_setPlace {S : MS} {x1 : Int32} {x2 : Int32} (hw : wfC S)  : wX1_setPlace S x1 x2 (fun _ => True) := by
  have f : cfr [103] [] S S := cfr.rf
  unfold wX1_setPlace
  refine ⟨fun c0_ => ?_, fun c0_ => ?_⟩
  · exact trivial
  · refine ⟨fun c1_ => ?_, fun c1_ => ?_⟩
    · exact trivial
    · refine ⟨?_, ?_⟩
      · have n1_ := rgI x1
        omega
      intro S4_2 eS4_2 y1_ y2_
      have f := f.tr (show cfr [103] [] S S4_2 by rw [eS4_2]; exact cfr.aI y1_ (by decide))
      exact trivial
set_option maxRecDepth 100000 in
theorem sfX1_pop {S : MS} (hw : wfC S)  : wX1_pop S (fun _ _ => True) := by
  have f : cfr [] [(41, 5)] S S := cfr.rf
  unfold wX1_pop
  refine ⟨fun c0_ => ?_, fun c0_ => ?_⟩
  · exact trivial
  · refine ⟨fun c1_ => ?_, fun c1_ => ?_⟩
    · intro S4_2 eS4_2 y1_ y2_
      have f := f.tr (show cfr [] [(41, 5)] S S4_2 by rw [eS4_2]; exact cfr.oI y1_ (by decide))
      have t3_ : (qI S4_2 16 5).toInt = ((qI S 16 5) - (1 : Int32)).toInt := by rw [eS4_2, qI_wI, if_pos ⟨rfl, rfl⟩]
      refine ⟨?_, ?_⟩
      · have n2_ := li_24k
        have n3_ := rgI (qI S4_2 16 5)
        have n3_ := t_addD (a := (24 : Int32)) (b := (qI S4_2 16 5))
        have n4_ := rgI ((24 : Int32) + (qI S4_2 16 5))
        have n5_ := rgI (qI S 16 5)
        have n7_ := li_1k
        have n7_ := t_subD (a := (qI S 16 5)) (b := (1 : Int32))
        have n8_ := rgI ((qI S 16 5) - (1 : Int32))
        omega
      exact trivial
    · exact trivial
set_option maxRecDepth 100000 in
theorem sfX1_push {S : MS} {x1 : Int32} (hw : wfC S)  : wX1_push S x1 (fun _ => True) := by
  have f : cfr [103] [(41, 5)] S S := cfr.rf
  unfold wX1_push
  refine ⟨fun c0_ => ?_, fun c0_ => ?_⟩
  · exact trivial
  · refine ⟨fun c1_ => ?_, fun c1_ => ?_⟩
    · exact trivial
    · refine ⟨?_, ?_⟩
      · have n2_ := li_24k
        have n3_ := rgI (qI S 16 5)
        have n3_ := t_addD (a := (24 : Int32)) (b := (qI S 16 5))
        have n4_ := rgI ((24 : Int32) + (qI S 16 5))
        omega
      intro S5_2 eS5_2 y1_ y2_
      have f := f.tr (show cfr [103] [(41, 5)] S S5_2 by rw [eS5_2]; exact cfr.aI y1_ (by decide))
      have t3_ : (qI S5_2 16 5).toInt = (qI S 16 5).toInt := congrArg Int32.toInt (((show cfr [103] [] S S5_2 by rw [eS5_2]; exact cfr.aI y1_ (by decide))).kI (a := 16) (j := 5) ((hw.2.1 _ finC_27).2.1) (by decide) (by decide))
      intro S7_4 eS7_4 y3_ y4_
      have f := f.tr (show cfr [103] [(41, 5)] S5_2 S7_4 by rw [eS7_4]; exact cfr.oI y3_ (by decide))
      have t5_ : (qI S7_4 16 5).toInt = ((qI S5_2 16 5) + (1 : Int32)).toInt := by rw [eS7_4, qI_wI, if_pos ⟨rfl, rfl⟩]
      exact trivial
set_option maxRecDepth 100000 in
theorem sfX1_take {S : MS} {x1 : Int32} (hw : wfC S)  : wX1_take S x1 (fun _ _ => True) := by
  have f : cfr [] [(41, 5), (41, 6)] S S := cfr.rf
  unfold wX1_take
  refine ⟨_, frX1_pop hw (sfX1_pop hw ), ?_⟩
  intro r2_0 S3_0 q1_ y2_ y3_
  have f := f.tr (q1_.2.mo (by decide) (by decide))
  have t1_ : (qI S3_0 16 6).toInt = (qI S 16 6).toInt := congrArg Int32.toInt ((q1_.2).kI (a := 16) (j := 6) ((hw.2.1 _ finC_27).2.1) (by decide) (by decide))
  refine ⟨fun c2_ => ?_, fun c2_ => ?_⟩
  · refine ⟨fun c3_ => ?_, fun c3_ => ?_⟩
    · unfold w_X1_take_J55
      intro y4_ y5_
      refine ⟨?_, ?_⟩
      · exact (bit_or (y4_.bit ((y4_.2.1 _ finC_27).2.1) (by decide)) (Or.inl rfl))
      intro S8_4 eS8_4 y6_ y7_
      have f := f.tr (show cfr [] [(41, 5), (41, 6)] S3_0 S8_4 by rw [eS8_4]; exact cfr.oI y6_ (by decide))
      have t5_ : (qI S8_4 16 6).toInt = ((qI S3_0 16 6) ||| (0 : Int32)).toInt := by rw [eS8_4, qI_wI, if_pos ⟨rfl, rfl⟩]
      exact trivial
    · unfold w_X1_take_J55
      intro y8_ y9_
      refine ⟨?_, ?_⟩
      · exact (bit_or (y8_.bit ((y8_.2.1 _ finC_27).2.1) (by decide)) (Or.inr rfl))
      intro S8_6 eS8_6 y10_ y11_
      have f := f.tr (show cfr [] [(41, 5), (41, 6)] S3_0 S8_6 by rw [eS8_6]; exact cfr.oI y10_ (by decide))
      have t7_ : (qI S8_6 16 6).toInt = ((qI S3_0 16 6) ||| (1 : Int32)).toInt := by rw [eS8_6, qI_wI, if_pos ⟨rfl, rfl⟩]
      exact trivial
  · refine ⟨fun c8_ => ?_, fun c8_ => ?_⟩
    · refine ⟨fun c9_ => ?_, fun c9_ => ?_⟩
      · unfold w_X1_take_J77
        intro y12_ y13_
        refine ⟨_, frX1_pop y12_ (sfX1_pop y12_ ), ?_⟩
        intro r12_10 S13_10 q14_ y15_ y16_
        have f := f.tr (q14_.2.mo (by decide) (by decide))
        have t11_ : (qI S13_10 16 6).toInt = (qI S3_0 16 6).toInt := congrArg Int32.toInt ((q14_.2).kI (a := 16) (j := 6) ((y12_.2.1 _ finC_27).2.1) (by decide) (by decide))
        refine ⟨fun c12_ => ?_, fun c12_ => ?_⟩
        · unfold w_X1_take_J90
          intro y17_ y18_
          refine ⟨?_, ?_⟩
          · exact (bit_or (y12_.bit ((y12_.2.1 _ finC_27).2.1) (by decide)) (bit_or (Or.inl rfl) (Or.inl rfl)))
          intro S18_13 eS18_13 y19_ y20_
          have f := f.tr (show cfr [] [(41, 5), (41, 6)] S13_10 S18_13 by rw [eS18_13]; exact cfr.oI y19_ (by decide))
          have t14_ : (qI S18_13 16 6).toInt = ((qI S3_0 16 6) ||| ((0 : Int32) ||| (0 : Int32))).toInt := by rw [eS18_13, qI_wI, if_pos ⟨rfl, rfl⟩]
          exact trivial
        · unfold w_X1_take_J90
          intro y21_ y22_
          refine ⟨?_, ?_⟩
          · exact (bit_or (y12_.bit ((y12_.2.1 _ finC_27).2.1) (by decide)) (bit_or (Or.inl rfl) (Or.inr rfl)))
          intro S18_15 eS18_15 y23_ y24_
          have f := f.tr (show cfr [] [(41, 5), (41, 6)] S13_10 S18_15 by rw [eS18_15]; exact cfr.oI y23_ (by decide))
          have t16_ : (qI S18_15 16 6).toInt = ((qI S3_0 16 6) ||| ((0 : Int32) ||| (1 : Int32))).toInt := by rw [eS18_15, qI_wI, if_pos ⟨rfl, rfl⟩]
          exact trivial
      · unfold w_X1_take_J77
        intro y25_ y26_
        refine ⟨_, frX1_pop y25_ (sfX1_pop y25_ ), ?_⟩
        intro r12_17 S13_17 q27_ y28_ y29_
        have f := f.tr (q27_.2.mo (by decide) (by decide))
        have t18_ : (qI S13_17 16 6).toInt = (qI S3_0 16 6).toInt := congrArg Int32.toInt ((q27_.2).kI (a := 16) (j := 6) ((y25_.2.1 _ finC_27).2.1) (by decide) (by decide))
        refine ⟨fun c19_ => ?_, fun c19_ => ?_⟩
        · unfold w_X1_take_J90
          intro y30_ y31_
          refine ⟨?_, ?_⟩
          · exact (bit_or (y25_.bit ((y25_.2.1 _ finC_27).2.1) (by decide)) (bit_or (Or.inr rfl) (Or.inl rfl)))
          intro S18_20 eS18_20 y32_ y33_
          have f := f.tr (show cfr [] [(41, 5), (41, 6)] S13_17 S18_20 by rw [eS18_20]; exact cfr.oI y32_ (by decide))
          have t21_ : (qI S18_20 16 6).toInt = ((qI S3_0 16 6) ||| ((1 : Int32) ||| (0 : Int32))).toInt := by rw [eS18_20, qI_wI, if_pos ⟨rfl, rfl⟩]
          exact trivial
        · unfold w_X1_take_J90
          intro y34_ y35_
          refine ⟨?_, ?_⟩
          · exact (bit_or (y25_.bit ((y25_.2.1 _ finC_27).2.1) (by decide)) (bit_or (Or.inr rfl) (Or.inr rfl)))
          intro S18_22 eS18_22 y36_ y37_
          have f := f.tr (show cfr [] [(41, 5), (41, 6)] S13_17 S18_22 by rw [eS18_22]; exact cfr.oI y36_ (by decide))
          have t23_ : (qI S18_22 16 6).toInt = ((qI S3_0 16 6) ||| ((1 : Int32) ||| (1 : Int32))).toInt := by rw [eS18_22, qI_wI, if_pos ⟨rfl, rfl⟩]
          exact trivial
    · refine ⟨fun c24_ => ?_, fun c24_ => ?_⟩
      · refine ⟨fun c25_ => ?_, fun c25_ => ?_⟩
        · unfold w_X1_take_J118
          intro y38_
          unfold w_X1_take_J119
          intro y39_ y40_
          refine ⟨?_, ?_⟩
          · exact (bit_or (y39_.bit ((y39_.2.1 _ finC_27).2.1) (by decide)) (Or.inl rfl))
          intro S24_26 eS24_26 y41_ y42_
          have f := f.tr (show cfr [] [(41, 5), (41, 6)] S3_0 S24_26 by rw [eS24_26]; exact cfr.oI y41_ (by decide))
          have t27_ : (qI S24_26 16 6).toInt = ((qI S3_0 16 6) ||| (0 : Int32)).toInt := by rw [eS24_26, qI_wI, if_pos ⟨rfl, rfl⟩]
          exact trivial
        · refine ⟨fun c28_ => ?_, fun c28_ => ?_⟩
          · unfold w_X1_take_J118
            intro y43_
            unfold w_X1_take_J119
            intro y44_ y45_
            refine ⟨?_, ?_⟩
            · exact (bit_or (y44_.bit ((y44_.2.1 _ finC_27).2.1) (by decide)) (Or.inl rfl))
            intro S24_29 eS24_29 y46_ y47_
            have f := f.tr (show cfr [] [(41, 5), (41, 6)] S3_0 S24_29 by rw [eS24_29]; exact cfr.oI y46_ (by decide))
            have t30_ : (qI S24_29 16 6).toInt = ((qI S3_0 16 6) ||| (0 : Int32)).toInt := by rw [eS24_29, qI_wI, if_pos ⟨rfl, rfl⟩]
            exact trivial
          · unfold w_X1_take_J119
            intro y48_ y49_
            refine ⟨?_, ?_⟩
            · exact (bit_or (y48_.bit ((y48_.2.1 _ finC_27).2.1) (by decide)) (Or.inr rfl))
            intro S24_31 eS24_31 y50_ y51_
            have f := f.tr (show cfr [] [(41, 5), (41, 6)] S3_0 S24_31 by rw [eS24_31]; exact cfr.oI y50_ (by decide))
            have t32_ : (qI S24_31 16 6).toInt = ((qI S3_0 16 6) ||| (1 : Int32)).toInt := by rw [eS24_31, qI_wI, if_pos ⟨rfl, rfl⟩]
            exact trivial
      · refine ⟨fun c33_ => ?_, fun c33_ => ?_⟩
        · refine ⟨?_, ?_⟩
          · exact dd_X1_isReference
          refine ⟨fun c34_ => ?_, fun c34_ => ?_⟩
          · unfold w_X1_take_J171
            intro y52_ y53_
            refine ⟨?_, ?_⟩
            · exact (bit_or (y52_.bit ((y52_.2.1 _ finC_27).2.1) (by decide)) (Or.inr rfl))
            intro S33_35 eS33_35 y54_ y55_
            have f := f.tr (show cfr [] [(41, 5), (41, 6)] S3_0 S33_35 by rw [eS33_35]; exact cfr.oI y54_ (by decide))
            have t36_ : (qI S33_35 16 6).toInt = ((qI S3_0 16 6) ||| (1 : Int32)).toInt := by rw [eS33_35, qI_wI, if_pos ⟨rfl, rfl⟩]
            exact trivial
          · unfold w_X1_take_J171
            intro y56_ y57_
            refine ⟨?_, ?_⟩
            · exact (bit_or (y56_.bit ((y56_.2.1 _ finC_27).2.1) (by decide)) (Or.inl rfl))
            intro S33_37 eS33_37 y58_ y59_
            have f := f.tr (show cfr [] [(41, 5), (41, 6)] S3_0 S33_37 by rw [eS33_37]; exact cfr.oI y58_ (by decide))
            have t38_ : (qI S33_37 16 6).toInt = ((qI S3_0 16 6) ||| (0 : Int32)).toInt := by rw [eS33_37, qI_wI, if_pos ⟨rfl, rfl⟩]
            exact trivial
        · refine ⟨fun c39_ => ?_, fun c39_ => ?_⟩
          · refine ⟨fun c40_ => ?_, fun c40_ => ?_⟩
            · unfold w_X1_take_J146
              intro y60_
              unfold w_X1_take_J147
              intro y61_ y62_
              refine ⟨?_, ?_⟩
              · exact (bit_or (y61_.bit ((y61_.2.1 _ finC_27).2.1) (by decide)) (Or.inl rfl))
              intro S38_41 eS38_41 y63_ y64_
              have f := f.tr (show cfr [] [(41, 5), (41, 6)] S3_0 S38_41 by rw [eS38_41]; exact cfr.oI y63_ (by decide))
              have t42_ : (qI S38_41 16 6).toInt = ((qI S3_0 16 6) ||| (0 : Int32)).toInt := by rw [eS38_41, qI_wI, if_pos ⟨rfl, rfl⟩]
              exact trivial
            · refine ⟨fun c43_ => ?_, fun c43_ => ?_⟩
              · unfold w_X1_take_J146
                intro y65_
                unfold w_X1_take_J147
                intro y66_ y67_
                refine ⟨?_, ?_⟩
                · exact (bit_or (y66_.bit ((y66_.2.1 _ finC_27).2.1) (by decide)) (Or.inl rfl))
                intro S38_44 eS38_44 y68_ y69_
                have f := f.tr (show cfr [] [(41, 5), (41, 6)] S3_0 S38_44 by rw [eS38_44]; exact cfr.oI y68_ (by decide))
                have t45_ : (qI S38_44 16 6).toInt = ((qI S3_0 16 6) ||| (0 : Int32)).toInt := by rw [eS38_44, qI_wI, if_pos ⟨rfl, rfl⟩]
                exact trivial
              · unfold w_X1_take_J147
                intro y70_ y71_
                refine ⟨?_, ?_⟩
                · exact (bit_or (y70_.bit ((y70_.2.1 _ finC_27).2.1) (by decide)) (Or.inr rfl))
                intro S38_46 eS38_46 y72_ y73_
                have f := f.tr (show cfr [] [(41, 5), (41, 6)] S3_0 S38_46 by rw [eS38_46]; exact cfr.oI y72_ (by decide))
                have t47_ : (qI S38_46 16 6).toInt = ((qI S3_0 16 6) ||| (1 : Int32)).toInt := by rw [eS38_46, qI_wI, if_pos ⟨rfl, rfl⟩]
                exact trivial
          · refine ⟨?_, ?_⟩
            · exact dd_X1_isOnePlace
            refine ⟨fun c48_ => ?_, fun c48_ => ?_⟩
            · unfold w_X1_take_J195
              intro y74_ y75_
              refine ⟨?_, ?_⟩
              · exact (bit_or (y74_.bit ((y74_.2.1 _ finC_27).2.1) (by decide)) (Or.inr rfl))
              intro S47_49 eS47_49 y76_ y77_
              have f := f.tr (show cfr [] [(41, 5), (41, 6)] S3_0 S47_49 by rw [eS47_49]; exact cfr.oI y76_ (by decide))
              have t50_ : (qI S47_49 16 6).toInt = ((qI S3_0 16 6) ||| (1 : Int32)).toInt := by rw [eS47_49, qI_wI, if_pos ⟨rfl, rfl⟩]
              exact trivial
            · unfold w_X1_take_J195
              intro y78_ y79_
              refine ⟨?_, ?_⟩
              · exact (bit_or (y78_.bit ((y78_.2.1 _ finC_27).2.1) (by decide)) (Or.inl rfl))
              intro S47_51 eS47_51 y80_ y81_
              have f := f.tr (show cfr [] [(41, 5), (41, 6)] S3_0 S47_51 by rw [eS47_51]; exact cfr.oI y80_ (by decide))
              have t52_ : (qI S47_51 16 6).toInt = ((qI S3_0 16 6) ||| (0 : Int32)).toInt := by rw [eS47_51, qI_wI, if_pos ⟨rfl, rfl⟩]
              exact trivial
set_option maxRecDepth 100000 in
theorem sfX1_give {S : MS} {x1 : Int32} (hw : wfC S)  : wX1_give S x1 (fun _ => True) := by
  have f : cfr [103] [(41, 5)] S S := cfr.rf
  unfold wX1_give
  refine ⟨fun c0_ => ?_, fun c0_ => ?_⟩
  · unfold w_X1_give_J12
    intro y1_
    refine ⟨fun c1_ => ?_, fun c1_ => ?_⟩
    · refine ⟨_, frX1_push y1_ (sfX1_push y1_ ), ?_⟩
      intro S3_2 q2_ y3_ y4_
      have f := f.tr (q2_.2.mo (by decide) (by decide))
      exact trivial
    · exact trivial
  · refine ⟨?_, ?_⟩
    · exact dd_X1_lowerType
    intro a9_3 ea9_3 
    have ga9_3 := congrArg Int32.toInt ea9_3
    refine ⟨_, frX1_push hw (sfX1_push hw ), ?_⟩
    intro S11_4 q5_ y6_ y7_
    have f := f.tr (q5_.2.mo (by decide) (by decide))
    unfold w_X1_give_J12
    intro y8_
    refine ⟨fun c5_ => ?_, fun c5_ => ?_⟩
    · refine ⟨_, frX1_push y8_ (sfX1_push y8_ ), ?_⟩
      intro S3_6 q9_ y10_ y11_
      have f := f.tr (q9_.2.mo (by decide) (by decide))
      exact trivial
    · exact trivial
set_option maxRecDepth 100000 in
theorem sfX1_takeCopy {S : MS} (hw : wfC S)  : wX1_takeCopy S (fun _ _ => True) := by
  have f : cfr [] [(41, 5), (41, 6)] S S := cfr.rf
  unfold wX1_takeCopy
  refine ⟨_, frX1_take hw (sfX1_take hw ), ?_⟩
  intro r2_0 S3_0 q1_ y2_ y3_
  have f := f.tr (q1_.2.mo (by decide) (by decide))
  refine ⟨?_, ?_⟩
  · exact dd_X1_isOnePlace
  refine ⟨fun c1_ => ?_, fun c1_ => ?_⟩
  · exact trivial
  · exact trivial
set_option maxRecDepth 100000 in
theorem sfX1_shuffle {S : MS} {x1 : Int32} (hw : wfC S)  : wX1_shuffle S x1 (fun _ => True) := by
  have f : cfr [103] [(41, 5), (41, 6)] S S := cfr.rf
  unfold wX1_shuffle
  refine ⟨fun c0_ => ?_, fun c0_ => ?_⟩
  · unfold w_X1_shuffle_J12
    intro y1_
    refine ⟨?_, ?_⟩
    · exact dd_X1_hasLong
    refine ⟨fun c1_ => ?_, fun c1_ => ?_⟩
    · unfold w_X1_shuffle_J40
      intro y2_
      refine ⟨_, frX1_takeCopy y2_ (sfX1_takeCopy y2_ ), ?_⟩
      intro r2_2 S3_2 q3_ y4_ y5_
      have f := f.tr (q3_.2.mo (by decide) (by decide))
      refine ⟨fun c3_ => ?_, fun c3_ => ?_⟩
      · unfold w_X1_shuffle_J57
        intro y6_
        unfold w_X1_shuffle_J65
        intro y7_
        refine ⟨fun c4_ => ?_, fun c4_ => ?_⟩
        · refine ⟨_, frX1_push y7_ (sfX1_push y7_ ), ?_⟩
          intro S6_5 q8_ y9_ y10_
          have f := f.tr (q8_.2.mo (by decide) (by decide))
          refine ⟨_, frX1_push y9_ (sfX1_push y9_ ), ?_⟩
          intro S9_6 q11_ y12_ y13_
          have f := f.tr (q11_.2.mo (by decide) (by decide))
          exact trivial
        · refine ⟨fun c7_ => ?_, fun c7_ => ?_⟩
          · refine ⟨_, frX1_push y7_ (sfX1_push y7_ ), ?_⟩
            intro S12_8 q14_ y15_ y16_
            have f := f.tr (q14_.2.mo (by decide) (by decide))
            refine ⟨_, frX1_push y15_ (sfX1_push y15_ ), ?_⟩
            intro S15_9 q17_ y18_ y19_
            have f := f.tr (q17_.2.mo (by decide) (by decide))
            refine ⟨_, frX1_push y18_ (sfX1_push y18_ ), ?_⟩
            intro S18_10 q20_ y21_ y22_
            have f := f.tr (q20_.2.mo (by decide) (by decide))
            exact trivial
          · refine ⟨fun c11_ => ?_, fun c11_ => ?_⟩
            · exact trivial
            · refine ⟨fun c12_ => ?_, fun c12_ => ?_⟩
              · refine ⟨_, frX1_push y7_ (sfX1_push y7_ ), ?_⟩
                intro S21_13 q23_ y24_ y25_
                have f := f.tr (q23_.2.mo (by decide) (by decide))
                refine ⟨_, frX1_push y24_ (sfX1_push y24_ ), ?_⟩
                intro S24_14 q26_ y27_ y28_
                have f := f.tr (q26_.2.mo (by decide) (by decide))
                refine ⟨_, frX1_push y27_ (sfX1_push y27_ ), ?_⟩
                intro S27_15 q29_ y30_ y31_
                have f := f.tr (q29_.2.mo (by decide) (by decide))
                refine ⟨_, frX1_push y30_ (sfX1_push y30_ ), ?_⟩
                intro S30_16 q32_ y33_ y34_
                have f := f.tr (q32_.2.mo (by decide) (by decide))
                exact trivial
              · refine ⟨fun c17_ => ?_, fun c17_ => ?_⟩
                · exact trivial
                · refine ⟨fun c18_ => ?_, fun c18_ => ?_⟩
                  · exact trivial
                  · refine ⟨fun c19_ => ?_, fun c19_ => ?_⟩
                    · refine ⟨_, frX1_push y7_ (sfX1_push y7_ ), ?_⟩
                      intro S33_20 q35_ y36_ y37_
                      have f := f.tr (q35_.2.mo (by decide) (by decide))
                      refine ⟨_, frX1_push y36_ (sfX1_push y36_ ), ?_⟩
                      intro S36_21 q38_ y39_ y40_
                      have f := f.tr (q38_.2.mo (by decide) (by decide))
                      exact trivial
                    · exact trivial
      · refine ⟨fun c22_ => ?_, fun c22_ => ?_⟩
        · unfold w_X1_shuffle_J57
          intro y41_
          unfold w_X1_shuffle_J65
          intro y42_
          refine ⟨fun c23_ => ?_, fun c23_ => ?_⟩
          · refine ⟨_, frX1_push y42_ (sfX1_push y42_ ), ?_⟩
            intro S6_24 q43_ y44_ y45_
            have f := f.tr (q43_.2.mo (by decide) (by decide))
            refine ⟨_, frX1_push y44_ (sfX1_push y44_ ), ?_⟩
            intro S9_25 q46_ y47_ y48_
            have f := f.tr (q46_.2.mo (by decide) (by decide))
            exact trivial
          · refine ⟨fun c26_ => ?_, fun c26_ => ?_⟩
            · refine ⟨_, frX1_push y42_ (sfX1_push y42_ ), ?_⟩
              intro S12_27 q49_ y50_ y51_
              have f := f.tr (q49_.2.mo (by decide) (by decide))
              refine ⟨_, frX1_push y50_ (sfX1_push y50_ ), ?_⟩
              intro S15_28 q52_ y53_ y54_
              have f := f.tr (q52_.2.mo (by decide) (by decide))
              refine ⟨_, frX1_push y53_ (sfX1_push y53_ ), ?_⟩
              intro S18_29 q55_ y56_ y57_
              have f := f.tr (q55_.2.mo (by decide) (by decide))
              exact trivial
            · refine ⟨fun c30_ => ?_, fun c30_ => ?_⟩
              · exact trivial
              · refine ⟨fun c31_ => ?_, fun c31_ => ?_⟩
                · refine ⟨_, frX1_push y42_ (sfX1_push y42_ ), ?_⟩
                  intro S21_32 q58_ y59_ y60_
                  have f := f.tr (q58_.2.mo (by decide) (by decide))
                  refine ⟨_, frX1_push y59_ (sfX1_push y59_ ), ?_⟩
                  intro S24_33 q61_ y62_ y63_
                  have f := f.tr (q61_.2.mo (by decide) (by decide))
                  refine ⟨_, frX1_push y62_ (sfX1_push y62_ ), ?_⟩
                  intro S27_34 q64_ y65_ y66_
                  have f := f.tr (q64_.2.mo (by decide) (by decide))
                  refine ⟨_, frX1_push y65_ (sfX1_push y65_ ), ?_⟩
                  intro S30_35 q67_ y68_ y69_
                  have f := f.tr (q67_.2.mo (by decide) (by decide))
                  exact trivial
                · refine ⟨fun c36_ => ?_, fun c36_ => ?_⟩
                  · exact trivial
                  · refine ⟨fun c37_ => ?_, fun c37_ => ?_⟩
                    · exact trivial
                    · refine ⟨fun c38_ => ?_, fun c38_ => ?_⟩
                      · refine ⟨_, frX1_push y42_ (sfX1_push y42_ ), ?_⟩
                        intro S33_39 q70_ y71_ y72_
                        have f := f.tr (q70_.2.mo (by decide) (by decide))
                        refine ⟨_, frX1_push y71_ (sfX1_push y71_ ), ?_⟩
                        intro S36_40 q73_ y74_ y75_
                        have f := f.tr (q73_.2.mo (by decide) (by decide))
                        exact trivial
                      · exact trivial
        · refine ⟨_, frX1_takeCopy y4_ (sfX1_takeCopy y4_ ), ?_⟩
          intro r41_41 S42_41 q76_ y77_ y78_
          have f := f.tr (q76_.2.mo (by decide) (by decide))
          unfold w_X1_shuffle_J65
          intro y79_
          refine ⟨fun c42_ => ?_, fun c42_ => ?_⟩
          · refine ⟨_, frX1_push y79_ (sfX1_push y79_ ), ?_⟩
            intro S6_43 q80_ y81_ y82_
            have f := f.tr (q80_.2.mo (by decide) (by decide))
            refine ⟨_, frX1_push y81_ (sfX1_push y81_ ), ?_⟩
            intro S9_44 q83_ y84_ y85_
            have f := f.tr (q83_.2.mo (by decide) (by decide))
            exact trivial
          · refine ⟨fun c45_ => ?_, fun c45_ => ?_⟩
            · refine ⟨_, frX1_push y79_ (sfX1_push y79_ ), ?_⟩
              intro S12_46 q86_ y87_ y88_
              have f := f.tr (q86_.2.mo (by decide) (by decide))
              refine ⟨_, frX1_push y87_ (sfX1_push y87_ ), ?_⟩
              intro S15_47 q89_ y90_ y91_
              have f := f.tr (q89_.2.mo (by decide) (by decide))
              refine ⟨_, frX1_push y90_ (sfX1_push y90_ ), ?_⟩
              intro S18_48 q92_ y93_ y94_
              have f := f.tr (q92_.2.mo (by decide) (by decide))
              exact trivial
            · refine ⟨fun c49_ => ?_, fun c49_ => ?_⟩
              · exact trivial
              · refine ⟨fun c50_ => ?_, fun c50_ => ?_⟩
                · refine ⟨_, frX1_push y79_ (sfX1_push y79_ ), ?_⟩
                  intro S21_51 q95_ y96_ y97_
                  have f := f.tr (q95_.2.mo (by decide) (by decide))
                  refine ⟨_, frX1_push y96_ (sfX1_push y96_ ), ?_⟩
                  intro S24_52 q98_ y99_ y100_
                  have f := f.tr (q98_.2.mo (by decide) (by decide))
                  refine ⟨_, frX1_push y99_ (sfX1_push y99_ ), ?_⟩
                  intro S27_53 q101_ y102_ y103_
                  have f := f.tr (q101_.2.mo (by decide) (by decide))
                  refine ⟨_, frX1_push y102_ (sfX1_push y102_ ), ?_⟩
                  intro S30_54 q104_ y105_ y106_
                  have f := f.tr (q104_.2.mo (by decide) (by decide))
                  exact trivial
                · refine ⟨fun c55_ => ?_, fun c55_ => ?_⟩
                  · exact trivial
                  · refine ⟨fun c56_ => ?_, fun c56_ => ?_⟩
                    · exact trivial
                    · refine ⟨fun c57_ => ?_, fun c57_ => ?_⟩
                      · refine ⟨_, frX1_push y79_ (sfX1_push y79_ ), ?_⟩
                        intro S33_58 q107_ y108_ y109_
                        have f := f.tr (q107_.2.mo (by decide) (by decide))
                        refine ⟨_, frX1_push y108_ (sfX1_push y108_ ), ?_⟩
                        intro S36_59 q110_ y111_ y112_
                        have f := f.tr (q110_.2.mo (by decide) (by decide))
                        exact trivial
                      · exact trivial
    · refine ⟨fun c60_ => ?_, fun c60_ => ?_⟩
      · refine ⟨_, frX1_take y1_ (sfX1_take y1_ ), ?_⟩
        intro r53_61 S54_61 q113_ y114_ y115_
        have f := f.tr (q113_.2.mo (by decide) (by decide))
        exact trivial
      · refine ⟨_, frX1_give y1_ (sfX1_give y1_ ), ?_⟩
        intro S50_62 q116_ y117_ y118_
        have f := f.tr (q116_.2.mo (by decide) (by decide))
        exact trivial
  · refine ⟨fun c63_ => ?_, fun c63_ => ?_⟩
    · unfold w_X1_shuffle_J12
      intro y119_
      refine ⟨?_, ?_⟩
      · exact dd_X1_hasLong
      refine ⟨fun c64_ => ?_, fun c64_ => ?_⟩
      · unfold w_X1_shuffle_J40
        intro y120_
        refine ⟨_, frX1_takeCopy y120_ (sfX1_takeCopy y120_ ), ?_⟩
        intro r2_65 S3_65 q121_ y122_ y123_
        have f := f.tr (q121_.2.mo (by decide) (by decide))
        refine ⟨fun c66_ => ?_, fun c66_ => ?_⟩
        · unfold w_X1_shuffle_J57
          intro y124_
          unfold w_X1_shuffle_J65
          intro y125_
          refine ⟨fun c67_ => ?_, fun c67_ => ?_⟩
          · refine ⟨_, frX1_push y125_ (sfX1_push y125_ ), ?_⟩
            intro S6_68 q126_ y127_ y128_
            have f := f.tr (q126_.2.mo (by decide) (by decide))
            refine ⟨_, frX1_push y127_ (sfX1_push y127_ ), ?_⟩
            intro S9_69 q129_ y130_ y131_
            have f := f.tr (q129_.2.mo (by decide) (by decide))
            exact trivial
          · refine ⟨fun c70_ => ?_, fun c70_ => ?_⟩
            · refine ⟨_, frX1_push y125_ (sfX1_push y125_ ), ?_⟩
              intro S12_71 q132_ y133_ y134_
              have f := f.tr (q132_.2.mo (by decide) (by decide))
              refine ⟨_, frX1_push y133_ (sfX1_push y133_ ), ?_⟩
              intro S15_72 q135_ y136_ y137_
              have f := f.tr (q135_.2.mo (by decide) (by decide))
              refine ⟨_, frX1_push y136_ (sfX1_push y136_ ), ?_⟩
              intro S18_73 q138_ y139_ y140_
              have f := f.tr (q138_.2.mo (by decide) (by decide))
              exact trivial
            · refine ⟨fun c74_ => ?_, fun c74_ => ?_⟩
              · exact trivial
              · refine ⟨fun c75_ => ?_, fun c75_ => ?_⟩
                · refine ⟨_, frX1_push y125_ (sfX1_push y125_ ), ?_⟩
                  intro S21_76 q141_ y142_ y143_
                  have f := f.tr (q141_.2.mo (by decide) (by decide))
                  refine ⟨_, frX1_push y142_ (sfX1_push y142_ ), ?_⟩
                  intro S24_77 q144_ y145_ y146_
                  have f := f.tr (q144_.2.mo (by decide) (by decide))
                  refine ⟨_, frX1_push y145_ (sfX1_push y145_ ), ?_⟩
                  intro S27_78 q147_ y148_ y149_
                  have f := f.tr (q147_.2.mo (by decide) (by decide))
                  refine ⟨_, frX1_push y148_ (sfX1_push y148_ ), ?_⟩
                  intro S30_79 q150_ y151_ y152_
                  have f := f.tr (q150_.2.mo (by decide) (by decide))
                  exact trivial
                · refine ⟨fun c80_ => ?_, fun c80_ => ?_⟩
                  · exact trivial
                  · refine ⟨fun c81_ => ?_, fun c81_ => ?_⟩
                    · exact trivial
                    · refine ⟨fun c82_ => ?_, fun c82_ => ?_⟩
                      · refine ⟨_, frX1_push y125_ (sfX1_push y125_ ), ?_⟩
                        intro S33_83 q153_ y154_ y155_
                        have f := f.tr (q153_.2.mo (by decide) (by decide))
                        refine ⟨_, frX1_push y154_ (sfX1_push y154_ ), ?_⟩
                        intro S36_84 q156_ y157_ y158_
                        have f := f.tr (q156_.2.mo (by decide) (by decide))
                        exact trivial
                      · exact trivial
        · refine ⟨fun c85_ => ?_, fun c85_ => ?_⟩
          · unfold w_X1_shuffle_J57
            intro y159_
            unfold w_X1_shuffle_J65
            intro y160_
            refine ⟨fun c86_ => ?_, fun c86_ => ?_⟩
            · refine ⟨_, frX1_push y160_ (sfX1_push y160_ ), ?_⟩
              intro S6_87 q161_ y162_ y163_
              have f := f.tr (q161_.2.mo (by decide) (by decide))
              refine ⟨_, frX1_push y162_ (sfX1_push y162_ ), ?_⟩
              intro S9_88 q164_ y165_ y166_
              have f := f.tr (q164_.2.mo (by decide) (by decide))
              exact trivial
            · refine ⟨fun c89_ => ?_, fun c89_ => ?_⟩
              · refine ⟨_, frX1_push y160_ (sfX1_push y160_ ), ?_⟩
                intro S12_90 q167_ y168_ y169_
                have f := f.tr (q167_.2.mo (by decide) (by decide))
                refine ⟨_, frX1_push y168_ (sfX1_push y168_ ), ?_⟩
                intro S15_91 q170_ y171_ y172_
                have f := f.tr (q170_.2.mo (by decide) (by decide))
                refine ⟨_, frX1_push y171_ (sfX1_push y171_ ), ?_⟩
                intro S18_92 q173_ y174_ y175_
                have f := f.tr (q173_.2.mo (by decide) (by decide))
                exact trivial
              · refine ⟨fun c93_ => ?_, fun c93_ => ?_⟩
                · exact trivial
                · refine ⟨fun c94_ => ?_, fun c94_ => ?_⟩
                  · refine ⟨_, frX1_push y160_ (sfX1_push y160_ ), ?_⟩
                    intro S21_95 q176_ y177_ y178_
                    have f := f.tr (q176_.2.mo (by decide) (by decide))
                    refine ⟨_, frX1_push y177_ (sfX1_push y177_ ), ?_⟩
                    intro S24_96 q179_ y180_ y181_
                    have f := f.tr (q179_.2.mo (by decide) (by decide))
                    refine ⟨_, frX1_push y180_ (sfX1_push y180_ ), ?_⟩
                    intro S27_97 q182_ y183_ y184_
                    have f := f.tr (q182_.2.mo (by decide) (by decide))
                    refine ⟨_, frX1_push y183_ (sfX1_push y183_ ), ?_⟩
                    intro S30_98 q185_ y186_ y187_
                    have f := f.tr (q185_.2.mo (by decide) (by decide))
                    exact trivial
                  · refine ⟨fun c99_ => ?_, fun c99_ => ?_⟩
                    · exact trivial
                    · refine ⟨fun c100_ => ?_, fun c100_ => ?_⟩
                      · exact trivial
                      · refine ⟨fun c101_ => ?_, fun c101_ => ?_⟩
                        · refine ⟨_, frX1_push y160_ (sfX1_push y160_ ), ?_⟩
                          intro S33_102 q188_ y189_ y190_
                          have f := f.tr (q188_.2.mo (by decide) (by decide))
                          refine ⟨_, frX1_push y189_ (sfX1_push y189_ ), ?_⟩
                          intro S36_103 q191_ y192_ y193_
                          have f := f.tr (q191_.2.mo (by decide) (by decide))
                          exact trivial
                        · exact trivial
          · refine ⟨_, frX1_takeCopy y122_ (sfX1_takeCopy y122_ ), ?_⟩
            intro r41_104 S42_104 q194_ y195_ y196_
            have f := f.tr (q194_.2.mo (by decide) (by decide))
            unfold w_X1_shuffle_J65
            intro y197_
            refine ⟨fun c105_ => ?_, fun c105_ => ?_⟩
            · refine ⟨_, frX1_push y197_ (sfX1_push y197_ ), ?_⟩
              intro S6_106 q198_ y199_ y200_
              have f := f.tr (q198_.2.mo (by decide) (by decide))
              refine ⟨_, frX1_push y199_ (sfX1_push y199_ ), ?_⟩
              intro S9_107 q201_ y202_ y203_
              have f := f.tr (q201_.2.mo (by decide) (by decide))
              exact trivial
            · refine ⟨fun c108_ => ?_, fun c108_ => ?_⟩
              · refine ⟨_, frX1_push y197_ (sfX1_push y197_ ), ?_⟩
                intro S12_109 q204_ y205_ y206_
                have f := f.tr (q204_.2.mo (by decide) (by decide))
                refine ⟨_, frX1_push y205_ (sfX1_push y205_ ), ?_⟩
                intro S15_110 q207_ y208_ y209_
                have f := f.tr (q207_.2.mo (by decide) (by decide))
                refine ⟨_, frX1_push y208_ (sfX1_push y208_ ), ?_⟩
                intro S18_111 q210_ y211_ y212_
                have f := f.tr (q210_.2.mo (by decide) (by decide))
                exact trivial
              · refine ⟨fun c112_ => ?_, fun c112_ => ?_⟩
                · exact trivial
                · refine ⟨fun c113_ => ?_, fun c113_ => ?_⟩
                  · refine ⟨_, frX1_push y197_ (sfX1_push y197_ ), ?_⟩
                    intro S21_114 q213_ y214_ y215_
                    have f := f.tr (q213_.2.mo (by decide) (by decide))
                    refine ⟨_, frX1_push y214_ (sfX1_push y214_ ), ?_⟩
                    intro S24_115 q216_ y217_ y218_
                    have f := f.tr (q216_.2.mo (by decide) (by decide))
                    refine ⟨_, frX1_push y217_ (sfX1_push y217_ ), ?_⟩
                    intro S27_116 q219_ y220_ y221_
                    have f := f.tr (q219_.2.mo (by decide) (by decide))
                    refine ⟨_, frX1_push y220_ (sfX1_push y220_ ), ?_⟩
                    intro S30_117 q222_ y223_ y224_
                    have f := f.tr (q222_.2.mo (by decide) (by decide))
                    exact trivial
                  · refine ⟨fun c118_ => ?_, fun c118_ => ?_⟩
                    · exact trivial
                    · refine ⟨fun c119_ => ?_, fun c119_ => ?_⟩
                      · exact trivial
                      · refine ⟨fun c120_ => ?_, fun c120_ => ?_⟩
                        · refine ⟨_, frX1_push y197_ (sfX1_push y197_ ), ?_⟩
                          intro S33_121 q225_ y226_ y227_
                          have f := f.tr (q225_.2.mo (by decide) (by decide))
                          refine ⟨_, frX1_push y226_ (sfX1_push y226_ ), ?_⟩
                          intro S36_122 q228_ y229_ y230_
                          have f := f.tr (q228_.2.mo (by decide) (by decide))
                          exact trivial
                        · exact trivial
      · refine ⟨fun c123_ => ?_, fun c123_ => ?_⟩
        · refine ⟨_, frX1_take y119_ (sfX1_take y119_ ), ?_⟩
          intro r53_124 S54_124 q231_ y232_ y233_
          have f := f.tr (q231_.2.mo (by decide) (by decide))
          exact trivial
        · refine ⟨_, frX1_give y119_ (sfX1_give y119_ ), ?_⟩
          intro S50_125 q234_ y235_ y236_
          have f := f.tr (q234_.2.mo (by decide) (by decide))
          exact trivial
    · unfold w_X1_shuffle_J40
      intro y237_
      refine ⟨_, frX1_takeCopy y237_ (sfX1_takeCopy y237_ ), ?_⟩
      intro r2_126 S3_126 q238_ y239_ y240_
      have f := f.tr (q238_.2.mo (by decide) (by decide))
      refine ⟨fun c127_ => ?_, fun c127_ => ?_⟩
      · unfold w_X1_shuffle_J57
        intro y241_
        unfold w_X1_shuffle_J65
        intro y242_
        refine ⟨fun c128_ => ?_, fun c128_ => ?_⟩
        · refine ⟨_, frX1_push y242_ (sfX1_push y242_ ), ?_⟩
          intro S6_129 q243_ y244_ y245_
          have f := f.tr (q243_.2.mo (by decide) (by decide))
          refine ⟨_, frX1_push y244_ (sfX1_push y244_ ), ?_⟩
          intro S9_130 q246_ y247_ y248_
          have f := f.tr (q246_.2.mo (by decide) (by decide))
          exact trivial
        · refine ⟨fun c131_ => ?_, fun c131_ => ?_⟩
          · refine ⟨_, frX1_push y242_ (sfX1_push y242_ ), ?_⟩
            intro S12_132 q249_ y250_ y251_
            have f := f.tr (q249_.2.mo (by decide) (by decide))
            refine ⟨_, frX1_push y250_ (sfX1_push y250_ ), ?_⟩
            intro S15_133 q252_ y253_ y254_
            have f := f.tr (q252_.2.mo (by decide) (by decide))
            refine ⟨_, frX1_push y253_ (sfX1_push y253_ ), ?_⟩
            intro S18_134 q255_ y256_ y257_
            have f := f.tr (q255_.2.mo (by decide) (by decide))
            exact trivial
          · refine ⟨fun c135_ => ?_, fun c135_ => ?_⟩
            · exact trivial
            · refine ⟨fun c136_ => ?_, fun c136_ => ?_⟩
              · refine ⟨_, frX1_push y242_ (sfX1_push y242_ ), ?_⟩
                intro S21_137 q258_ y259_ y260_
                have f := f.tr (q258_.2.mo (by decide) (by decide))
                refine ⟨_, frX1_push y259_ (sfX1_push y259_ ), ?_⟩
                intro S24_138 q261_ y262_ y263_
                have f := f.tr (q261_.2.mo (by decide) (by decide))
                refine ⟨_, frX1_push y262_ (sfX1_push y262_ ), ?_⟩
                intro S27_139 q264_ y265_ y266_
                have f := f.tr (q264_.2.mo (by decide) (by decide))
                refine ⟨_, frX1_push y265_ (sfX1_push y265_ ), ?_⟩
                intro S30_140 q267_ y268_ y269_
                have f := f.tr (q267_.2.mo (by decide) (by decide))
                exact trivial
              · refine ⟨fun c141_ => ?_, fun c141_ => ?_⟩
                · exact trivial
                · refine ⟨fun c142_ => ?_, fun c142_ => ?_⟩
                  · exact trivial
                  · refine ⟨fun c143_ => ?_, fun c143_ => ?_⟩
                    · refine ⟨_, frX1_push y242_ (sfX1_push y242_ ), ?_⟩
                      intro S33_144 q270_ y271_ y272_
                      have f := f.tr (q270_.2.mo (by decide) (by decide))
                      refine ⟨_, frX1_push y271_ (sfX1_push y271_ ), ?_⟩
                      intro S36_145 q273_ y274_ y275_
                      have f := f.tr (q273_.2.mo (by decide) (by decide))
                      exact trivial
                    · exact trivial
      · refine ⟨fun c146_ => ?_, fun c146_ => ?_⟩
        · unfold w_X1_shuffle_J57
          intro y276_
          unfold w_X1_shuffle_J65
          intro y277_
          refine ⟨fun c147_ => ?_, fun c147_ => ?_⟩
          · refine ⟨_, frX1_push y277_ (sfX1_push y277_ ), ?_⟩
            intro S6_148 q278_ y279_ y280_
            have f := f.tr (q278_.2.mo (by decide) (by decide))
            refine ⟨_, frX1_push y279_ (sfX1_push y279_ ), ?_⟩
            intro S9_149 q281_ y282_ y283_
            have f := f.tr (q281_.2.mo (by decide) (by decide))
            exact trivial
          · refine ⟨fun c150_ => ?_, fun c150_ => ?_⟩
            · refine ⟨_, frX1_push y277_ (sfX1_push y277_ ), ?_⟩
              intro S12_151 q284_ y285_ y286_
              have f := f.tr (q284_.2.mo (by decide) (by decide))
              refine ⟨_, frX1_push y285_ (sfX1_push y285_ ), ?_⟩
              intro S15_152 q287_ y288_ y289_
              have f := f.tr (q287_.2.mo (by decide) (by decide))
              refine ⟨_, frX1_push y288_ (sfX1_push y288_ ), ?_⟩
              intro S18_153 q290_ y291_ y292_
              have f := f.tr (q290_.2.mo (by decide) (by decide))
              exact trivial
            · refine ⟨fun c154_ => ?_, fun c154_ => ?_⟩
              · exact trivial
              · refine ⟨fun c155_ => ?_, fun c155_ => ?_⟩
                · refine ⟨_, frX1_push y277_ (sfX1_push y277_ ), ?_⟩
                  intro S21_156 q293_ y294_ y295_
                  have f := f.tr (q293_.2.mo (by decide) (by decide))
                  refine ⟨_, frX1_push y294_ (sfX1_push y294_ ), ?_⟩
                  intro S24_157 q296_ y297_ y298_
                  have f := f.tr (q296_.2.mo (by decide) (by decide))
                  refine ⟨_, frX1_push y297_ (sfX1_push y297_ ), ?_⟩
                  intro S27_158 q299_ y300_ y301_
                  have f := f.tr (q299_.2.mo (by decide) (by decide))
                  refine ⟨_, frX1_push y300_ (sfX1_push y300_ ), ?_⟩
                  intro S30_159 q302_ y303_ y304_
                  have f := f.tr (q302_.2.mo (by decide) (by decide))
                  exact trivial
                · refine ⟨fun c160_ => ?_, fun c160_ => ?_⟩
                  · exact trivial
                  · refine ⟨fun c161_ => ?_, fun c161_ => ?_⟩
                    · exact trivial
                    · refine ⟨fun c162_ => ?_, fun c162_ => ?_⟩
                      · refine ⟨_, frX1_push y277_ (sfX1_push y277_ ), ?_⟩
                        intro S33_163 q305_ y306_ y307_
                        have f := f.tr (q305_.2.mo (by decide) (by decide))
                        refine ⟨_, frX1_push y306_ (sfX1_push y306_ ), ?_⟩
                        intro S36_164 q308_ y309_ y310_
                        have f := f.tr (q308_.2.mo (by decide) (by decide))
                        exact trivial
                      · exact trivial
        · refine ⟨_, frX1_takeCopy y239_ (sfX1_takeCopy y239_ ), ?_⟩
          intro r41_165 S42_165 q311_ y312_ y313_
          have f := f.tr (q311_.2.mo (by decide) (by decide))
          unfold w_X1_shuffle_J65
          intro y314_
          refine ⟨fun c166_ => ?_, fun c166_ => ?_⟩
          · refine ⟨_, frX1_push y314_ (sfX1_push y314_ ), ?_⟩
            intro S6_167 q315_ y316_ y317_
            have f := f.tr (q315_.2.mo (by decide) (by decide))
            refine ⟨_, frX1_push y316_ (sfX1_push y316_ ), ?_⟩
            intro S9_168 q318_ y319_ y320_
            have f := f.tr (q318_.2.mo (by decide) (by decide))
            exact trivial
          · refine ⟨fun c169_ => ?_, fun c169_ => ?_⟩
            · refine ⟨_, frX1_push y314_ (sfX1_push y314_ ), ?_⟩
              intro S12_170 q321_ y322_ y323_
              have f := f.tr (q321_.2.mo (by decide) (by decide))
              refine ⟨_, frX1_push y322_ (sfX1_push y322_ ), ?_⟩
              intro S15_171 q324_ y325_ y326_
              have f := f.tr (q324_.2.mo (by decide) (by decide))
              refine ⟨_, frX1_push y325_ (sfX1_push y325_ ), ?_⟩
              intro S18_172 q327_ y328_ y329_
              have f := f.tr (q327_.2.mo (by decide) (by decide))
              exact trivial
            · refine ⟨fun c173_ => ?_, fun c173_ => ?_⟩
              · exact trivial
              · refine ⟨fun c174_ => ?_, fun c174_ => ?_⟩
                · refine ⟨_, frX1_push y314_ (sfX1_push y314_ ), ?_⟩
                  intro S21_175 q330_ y331_ y332_
                  have f := f.tr (q330_.2.mo (by decide) (by decide))
                  refine ⟨_, frX1_push y331_ (sfX1_push y331_ ), ?_⟩
                  intro S24_176 q333_ y334_ y335_
                  have f := f.tr (q333_.2.mo (by decide) (by decide))
                  refine ⟨_, frX1_push y334_ (sfX1_push y334_ ), ?_⟩
                  intro S27_177 q336_ y337_ y338_
                  have f := f.tr (q336_.2.mo (by decide) (by decide))
                  refine ⟨_, frX1_push y337_ (sfX1_push y337_ ), ?_⟩
                  intro S30_178 q339_ y340_ y341_
                  have f := f.tr (q339_.2.mo (by decide) (by decide))
                  exact trivial
                · refine ⟨fun c179_ => ?_, fun c179_ => ?_⟩
                  · exact trivial
                  · refine ⟨fun c180_ => ?_, fun c180_ => ?_⟩
                    · exact trivial
                    · refine ⟨fun c181_ => ?_, fun c181_ => ?_⟩
                      · refine ⟨_, frX1_push y314_ (sfX1_push y314_ ), ?_⟩
                        intro S33_182 q342_ y343_ y344_
                        have f := f.tr (q342_.2.mo (by decide) (by decide))
                        refine ⟨_, frX1_push y343_ (sfX1_push y343_ ), ?_⟩
                        intro S36_183 q345_ y346_ y347_
                        have f := f.tr (q345_.2.mo (by decide) (by decide))
                        exact trivial
                      · exact trivial
set_option maxRecDepth 100000 in
theorem sfX5_heapAt {S : MS} {x1 : Int32} (hw : wfC S)  : wX5_heapAt S x1 (fun _ _ => True) := by
  have f : cfr [] [(45, 19)] S S := cfr.rf
  unfold wX5_heapAt
  refine ⟨fun c0_ => ?_, fun c0_ => ?_⟩
  · unfold w_X5_heapAt_J21
    intro y1_
    intro S2_1 eS2_1 y2_ y3_
    have f := f.tr (show cfr [] [(45, 19)] S S2_1 by rw [eS2_1]; exact cfr.oI y2_ (by decide))
    have t2_ : (qI S2_1 44 19).toInt = ((qI S 44 19) + (1 : Int32)).toInt := by rw [eS2_1, qI_wI, if_pos ⟨rfl, rfl⟩]
    have t3_ : (qI S2_1 44 3).toInt = (qI S 44 3).toInt := congrArg Int32.toInt (((show cfr [] [(45, 19)] S S2_1 by rw [eS2_1]; exact cfr.oI y2_ (by decide))).kI (a := 44) (j := 3) ((y1_.2.1 _ finC_29).2.1) (by decide) (by decide))
    have t4_ : (qN S2_1 (qO S2_1 44 2) : Int) = (qN S (qO S 44 2) : Int) := ((show cfr [] [(45, 19)] S S2_1 by rw [eS2_1]; exact cfr.oI y2_ (by decide))).kN y1_ (a := 44) (j := 2) ((y1_.2.1 _ finC_29).2.1) (by decide) (by decide) ptrC_18
    exact trivial
  · refine ⟨fun c5_ => ?_, fun c5_ => ?_⟩
    · unfold w_X5_heapAt_J21
      intro y4_
      intro S2_6 eS2_6 y5_ y6_
      have f := f.tr (show cfr [] [(45, 19)] S S2_6 by rw [eS2_6]; exact cfr.oI y5_ (by decide))
      have t7_ : (qI S2_6 44 19).toInt = ((qI S 44 19) + (1 : Int32)).toInt := by rw [eS2_6, qI_wI, if_pos ⟨rfl, rfl⟩]
      have t8_ : (qI S2_6 44 3).toInt = (qI S 44 3).toInt := congrArg Int32.toInt (((show cfr [] [(45, 19)] S S2_6 by rw [eS2_6]; exact cfr.oI y5_ (by decide))).kI (a := 44) (j := 3) ((y4_.2.1 _ finC_29).2.1) (by decide) (by decide))
      have t9_ : (qN S2_6 (qO S2_6 44 2) : Int) = (qN S (qO S 44 2) : Int) := ((show cfr [] [(45, 19)] S S2_6 by rw [eS2_6]; exact cfr.oI y5_ (by decide))).kN y4_ (a := 44) (j := 2) ((y4_.2.1 _ finC_29).2.1) (by decide) (by decide) ptrC_18
      exact trivial
    · refine ⟨fun c10_ => ?_, fun c10_ => ?_⟩
      · refine ⟨?_, ?_⟩
        · have n1_ := rgI x1
          have n2_ := rgI (qI S 44 3)
          omega
        exact trivial
      · unfold w_X5_heapAt_J21
        intro y7_
        intro S2_11 eS2_11 y8_ y9_
        have f := f.tr (show cfr [] [(45, 19)] S S2_11 by rw [eS2_11]; exact cfr.oI y8_ (by decide))
        have t12_ : (qI S2_11 44 19).toInt = ((qI S 44 19) + (1 : Int32)).toInt := by rw [eS2_11, qI_wI, if_pos ⟨rfl, rfl⟩]
        have t13_ : (qI S2_11 44 3).toInt = (qI S 44 3).toInt := congrArg Int32.toInt (((show cfr [] [(45, 19)] S S2_11 by rw [eS2_11]; exact cfr.oI y8_ (by decide))).kI (a := 44) (j := 3) ((y7_.2.1 _ finC_29).2.1) (by decide) (by decide))
        have t14_ : (qN S2_11 (qO S2_11 44 2) : Int) = (qN S (qO S 44 2) : Int) := ((show cfr [] [(45, 19)] S S2_11 by rw [eS2_11]; exact cfr.oI y8_ (by decide))).kN y7_ (a := 44) (j := 2) ((y7_.2.1 _ finC_29).2.1) (by decide) (by decide) ptrC_18
        exact trivial
set_option maxRecDepth 100000 in
theorem sfX5_setLocal {S : MS} {x1 : Int32} {y2 : Int64} (hw : wfC S)  : wX5_setLocal S x1 y2 (fun _ => True) := by
  have f : cfr [404] [(45, 19)] S S := cfr.rf
  unfold wX5_setLocal
  intro a3_0 ea3_0 
  have ga3_0 := congrArg Int32.toInt ea3_0
  refine ⟨fun c1_ => ?_, fun c1_ => ?_⟩
  · unfold w_X5_setLocal_J36
    intro y1_
    intro S5_2 eS5_2 y2_ y3_
    have f := f.tr (show cfr [404] [(45, 19)] S S5_2 by rw [eS5_2]; exact cfr.oI y2_ (by decide))
    have t3_ : (qI S5_2 44 19).toInt = ((qI S 44 19) + (1 : Int32)).toInt := by rw [eS5_2, qI_wI, if_pos ⟨rfl, rfl⟩]
    have t4_ : (qI S5_2 44 11).toInt = (qI S 44 11).toInt := congrArg Int32.toInt (((show cfr [] [(45, 19)] S S5_2 by rw [eS5_2]; exact cfr.oI y2_ (by decide))).kI (a := 44) (j := 11) ((y1_.2.1 _ finC_29).2.1) (by decide) (by decide))
    have t5_ : (qN S5_2 (qO S5_2 44 8) : Int) = (qN S (qO S 44 8) : Int) := ((show cfr [] [(45, 19)] S S5_2 by rw [eS5_2]; exact cfr.oI y2_ (by decide))).kN y1_ (a := 44) (j := 8) ((y1_.2.1 _ finC_29).2.1) (by decide) (by decide) ptrC_20
    exact trivial
  · refine ⟨fun c6_ => ?_, fun c6_ => ?_⟩
    · unfold w_X5_setLocal_J36
      intro y4_
      intro S5_7 eS5_7 y5_ y6_
      have f := f.tr (show cfr [404] [(45, 19)] S S5_7 by rw [eS5_7]; exact cfr.oI y5_ (by decide))
      have t8_ : (qI S5_7 44 19).toInt = ((qI S 44 19) + (1 : Int32)).toInt := by rw [eS5_7, qI_wI, if_pos ⟨rfl, rfl⟩]
      have t9_ : (qI S5_7 44 11).toInt = (qI S 44 11).toInt := congrArg Int32.toInt (((show cfr [] [(45, 19)] S S5_7 by rw [eS5_7]; exact cfr.oI y5_ (by decide))).kI (a := 44) (j := 11) ((y4_.2.1 _ finC_29).2.1) (by decide) (by decide))
      have t10_ : (qN S5_7 (qO S5_7 44 8) : Int) = (qN S (qO S 44 8) : Int) := ((show cfr [] [(45, 19)] S S5_7 by rw [eS5_7]; exact cfr.oI y5_ (by decide))).kN y4_ (a := 44) (j := 8) ((y4_.2.1 _ finC_29).2.1) (by decide) (by decide) ptrC_20
      exact trivial
    · refine ⟨fun c11_ => ?_, fun c11_ => ?_⟩
      · unfold w_X5_setLocal_J36
        intro y7_
        intro S5_12 eS5_12 y8_ y9_
        have f := f.tr (show cfr [404] [(45, 19)] S S5_12 by rw [eS5_12]; exact cfr.oI y8_ (by decide))
        have t13_ : (qI S5_12 44 19).toInt = ((qI S 44 19) + (1 : Int32)).toInt := by rw [eS5_12, qI_wI, if_pos ⟨rfl, rfl⟩]
        have t14_ : (qI S5_12 44 11).toInt = (qI S 44 11).toInt := congrArg Int32.toInt (((show cfr [] [(45, 19)] S S5_12 by rw [eS5_12]; exact cfr.oI y8_ (by decide))).kI (a := 44) (j := 11) ((y7_.2.1 _ finC_29).2.1) (by decide) (by decide))
        have t15_ : (qN S5_12 (qO S5_12 44 8) : Int) = (qN S (qO S 44 8) : Int) := ((show cfr [] [(45, 19)] S S5_12 by rw [eS5_12]; exact cfr.oI y8_ (by decide))).kN y7_ (a := 44) (j := 8) ((y7_.2.1 _ finC_29).2.1) (by decide) (by decide) ptrC_20
        exact trivial
      · refine ⟨fun c16_ => ?_, fun c16_ => ?_⟩
        · refine ⟨?_, ?_⟩
          · have n1_ := rgI a3_0
            have n3_ := rgI ((qI S 44 11) * (24 : Int32))
            have n4_ := rgI x1
            have n4_ := t_addD (a := ((qI S 44 11) * (24 : Int32))) (b := x1)
            have n5_ := rgI (((qI S 44 11) * (24 : Int32)) + x1)
            omega
          intro S14_17 eS14_17 y10_ y11_
          have f := f.tr (show cfr [404] [(45, 19)] S S14_17 by rw [eS14_17]; exact cfr.aJ y10_ (by decide))
          have t18_ : (qI S14_17 44 11).toInt = (qI S 44 11).toInt := congrArg Int32.toInt (((show cfr [404] [] S S14_17 by rw [eS14_17]; exact cfr.aJ y10_ (by decide))).kI (a := 44) (j := 11) ((hw.2.1 _ finC_29).2.1) (by decide) (by decide))
          have t19_ : (qI S14_17 44 19).toInt = (qI S 44 19).toInt := congrArg Int32.toInt (((show cfr [404] [] S S14_17 by rw [eS14_17]; exact cfr.aJ y10_ (by decide))).kI (a := 44) (j := 19) ((hw.2.1 _ finC_29).2.1) (by decide) (by decide))
          have t20_ : (qN S14_17 (qO S14_17 44 8) : Int) = (qN S (qO S 44 8) : Int) := ((show cfr [404] [] S S14_17 by rw [eS14_17]; exact cfr.aJ y10_ (by decide))).kN hw (a := 44) (j := 8) ((hw.2.1 _ finC_29).2.1) (by decide) (by decide) ptrC_20
          exact trivial
        · unfold w_X5_setLocal_J36
          intro y12_
          intro S5_21 eS5_21 y13_ y14_
          have f := f.tr (show cfr [404] [(45, 19)] S S5_21 by rw [eS5_21]; exact cfr.oI y13_ (by decide))
          have t22_ : (qI S5_21 44 19).toInt = ((qI S 44 19) + (1 : Int32)).toInt := by rw [eS5_21, qI_wI, if_pos ⟨rfl, rfl⟩]
          have t23_ : (qI S5_21 44 11).toInt = (qI S 44 11).toInt := congrArg Int32.toInt (((show cfr [] [(45, 19)] S S5_21 by rw [eS5_21]; exact cfr.oI y13_ (by decide))).kI (a := 44) (j := 11) ((y12_.2.1 _ finC_29).2.1) (by decide) (by decide))
          have t24_ : (qN S5_21 (qO S5_21 44 8) : Int) = (qN S (qO S 44 8) : Int) := ((show cfr [] [(45, 19)] S S5_21 by rw [eS5_21]; exact cfr.oI y13_ (by decide))).kN y12_ (a := 44) (j := 8) ((y12_.2.1 _ finC_29).2.1) (by decide) (by decide) ptrC_20
          exact trivial
set_option maxRecDepth 100000 in
theorem sfX5_localAt {S : MS} {x1 : Int32} (hw : wfC S)  : wX5_localAt S x1 (fun _ _ => True) := by
  have f : cfr [] [(45, 19)] S S := cfr.rf
  unfold wX5_localAt
  intro a3_0 ea3_0 
  have ga3_0 := congrArg Int32.toInt ea3_0
  refine ⟨fun c1_ => ?_, fun c1_ => ?_⟩
  · unfold w_X5_localAt_J33
    intro y1_
    intro S5_2 eS5_2 y2_ y3_
    have f := f.tr (show cfr [] [(45, 19)] S S5_2 by rw [eS5_2]; exact cfr.oI y2_ (by decide))
    have t3_ : (qI S5_2 44 19).toInt = ((qI S 44 19) + (1 : Int32)).toInt := by rw [eS5_2, qI_wI, if_pos ⟨rfl, rfl⟩]
    have t4_ : (qI S5_2 44 11).toInt = (qI S 44 11).toInt := congrArg Int32.toInt (((show cfr [] [(45, 19)] S S5_2 by rw [eS5_2]; exact cfr.oI y2_ (by decide))).kI (a := 44) (j := 11) ((y1_.2.1 _ finC_29).2.1) (by decide) (by decide))
    have t5_ : (qN S5_2 (qO S5_2 44 8) : Int) = (qN S (qO S 44 8) : Int) := ((show cfr [] [(45, 19)] S S5_2 by rw [eS5_2]; exact cfr.oI y2_ (by decide))).kN y1_ (a := 44) (j := 8) ((y1_.2.1 _ finC_29).2.1) (by decide) (by decide) ptrC_20
    exact trivial
  · refine ⟨fun c6_ => ?_, fun c6_ => ?_⟩
    · unfold w_X5_localAt_J33
      intro y4_
      intro S5_7 eS5_7 y5_ y6_
      have f := f.tr (show cfr [] [(45, 19)] S S5_7 by rw [eS5_7]; exact cfr.oI y5_ (by decide))
      have t8_ : (qI S5_7 44 19).toInt = ((qI S 44 19) + (1 : Int32)).toInt := by rw [eS5_7, qI_wI, if_pos ⟨rfl, rfl⟩]
      have t9_ : (qI S5_7 44 11).toInt = (qI S 44 11).toInt := congrArg Int32.toInt (((show cfr [] [(45, 19)] S S5_7 by rw [eS5_7]; exact cfr.oI y5_ (by decide))).kI (a := 44) (j := 11) ((y4_.2.1 _ finC_29).2.1) (by decide) (by decide))
      have t10_ : (qN S5_7 (qO S5_7 44 8) : Int) = (qN S (qO S 44 8) : Int) := ((show cfr [] [(45, 19)] S S5_7 by rw [eS5_7]; exact cfr.oI y5_ (by decide))).kN y4_ (a := 44) (j := 8) ((y4_.2.1 _ finC_29).2.1) (by decide) (by decide) ptrC_20
      exact trivial
    · refine ⟨fun c11_ => ?_, fun c11_ => ?_⟩
      · unfold w_X5_localAt_J33
        intro y7_
        intro S5_12 eS5_12 y8_ y9_
        have f := f.tr (show cfr [] [(45, 19)] S S5_12 by rw [eS5_12]; exact cfr.oI y8_ (by decide))
        have t13_ : (qI S5_12 44 19).toInt = ((qI S 44 19) + (1 : Int32)).toInt := by rw [eS5_12, qI_wI, if_pos ⟨rfl, rfl⟩]
        have t14_ : (qI S5_12 44 11).toInt = (qI S 44 11).toInt := congrArg Int32.toInt (((show cfr [] [(45, 19)] S S5_12 by rw [eS5_12]; exact cfr.oI y8_ (by decide))).kI (a := 44) (j := 11) ((y7_.2.1 _ finC_29).2.1) (by decide) (by decide))
        have t15_ : (qN S5_12 (qO S5_12 44 8) : Int) = (qN S (qO S 44 8) : Int) := ((show cfr [] [(45, 19)] S S5_12 by rw [eS5_12]; exact cfr.oI y8_ (by decide))).kN y7_ (a := 44) (j := 8) ((y7_.2.1 _ finC_29).2.1) (by decide) (by decide) ptrC_20
        exact trivial
      · refine ⟨fun c16_ => ?_, fun c16_ => ?_⟩
        · refine ⟨?_, ?_⟩
          · have n1_ := rgI a3_0
            have n3_ := rgI ((qI S 44 11) * (24 : Int32))
            have n4_ := rgI x1
            have n4_ := t_addD (a := ((qI S 44 11) * (24 : Int32))) (b := x1)
            have n5_ := rgI (((qI S 44 11) * (24 : Int32)) + x1)
            omega
          exact trivial
        · unfold w_X5_localAt_J33
          intro y10_
          intro S5_17 eS5_17 y11_ y12_
          have f := f.tr (show cfr [] [(45, 19)] S S5_17 by rw [eS5_17]; exact cfr.oI y11_ (by decide))
          have t18_ : (qI S5_17 44 19).toInt = ((qI S 44 19) + (1 : Int32)).toInt := by rw [eS5_17, qI_wI, if_pos ⟨rfl, rfl⟩]
          have t19_ : (qI S5_17 44 11).toInt = (qI S 44 11).toInt := congrArg Int32.toInt (((show cfr [] [(45, 19)] S S5_17 by rw [eS5_17]; exact cfr.oI y11_ (by decide))).kI (a := 44) (j := 11) ((y10_.2.1 _ finC_29).2.1) (by decide) (by decide))
          have t20_ : (qN S5_17 (qO S5_17 44 8) : Int) = (qN S (qO S 44 8) : Int) := ((show cfr [] [(45, 19)] S S5_17 by rw [eS5_17]; exact cfr.oI y11_ (by decide))).kN y10_ (a := 44) (j := 8) ((y10_.2.1 _ finC_29).2.1) (by decide) (by decide) ptrC_20
          exact trivial
set_option maxRecDepth 100000 in
theorem sfX5_push {S : MS} {y1 : Int64} (hw : wfC S)  : wX5_push S y1 (fun _ => True) := by
  have f : cfr [405] [(45, 14), (45, 19)] S S := cfr.rf
  unfold wX5_push
  intro a3_0 ea3_0 
  have ga3_0 := congrArg Int32.toInt ea3_0
  refine ⟨fun c1_ => ?_, fun c1_ => ?_⟩
  · unfold w_X5_push_J42
    intro y1_
    intro S5_2 eS5_2 y2_ y3_
    have f := f.tr (show cfr [405] [(45, 14), (45, 19)] S S5_2 by rw [eS5_2]; exact cfr.oI y2_ (by decide))
    have t3_ : (qI S5_2 44 19).toInt = ((qI S 44 19) + (1 : Int32)).toInt := by rw [eS5_2, qI_wI, if_pos ⟨rfl, rfl⟩]
    have t4_ : (qI S5_2 44 11).toInt = (qI S 44 11).toInt := congrArg Int32.toInt (((show cfr [] [(45, 19)] S S5_2 by rw [eS5_2]; exact cfr.oI y2_ (by decide))).kI (a := 44) (j := 11) ((y1_.2.1 _ finC_29).2.1) (by decide) (by decide))
    have t5_ : (qI S5_2 44 14).toInt = (qI S 44 14).toInt := congrArg Int32.toInt (((show cfr [] [(45, 19)] S S5_2 by rw [eS5_2]; exact cfr.oI y2_ (by decide))).kI (a := 44) (j := 14) ((y1_.2.1 _ finC_29).2.1) (by decide) (by decide))
    have t6_ : (qN S5_2 (qO S5_2 44 9) : Int) = (qN S (qO S 44 9) : Int) := ((show cfr [] [(45, 19)] S S5_2 by rw [eS5_2]; exact cfr.oI y2_ (by decide))).kN y1_ (a := 44) (j := 9) ((y1_.2.1 _ finC_29).2.1) (by decide) (by decide) ptrC_21
    exact trivial
  · refine ⟨fun c7_ => ?_, fun c7_ => ?_⟩
    · unfold w_X5_push_J42
      intro y4_
      intro S5_8 eS5_8 y5_ y6_
      have f := f.tr (show cfr [405] [(45, 14), (45, 19)] S S5_8 by rw [eS5_8]; exact cfr.oI y5_ (by decide))
      have t9_ : (qI S5_8 44 19).toInt = ((qI S 44 19) + (1 : Int32)).toInt := by rw [eS5_8, qI_wI, if_pos ⟨rfl, rfl⟩]
      have t10_ : (qI S5_8 44 11).toInt = (qI S 44 11).toInt := congrArg Int32.toInt (((show cfr [] [(45, 19)] S S5_8 by rw [eS5_8]; exact cfr.oI y5_ (by decide))).kI (a := 44) (j := 11) ((y4_.2.1 _ finC_29).2.1) (by decide) (by decide))
      have t11_ : (qI S5_8 44 14).toInt = (qI S 44 14).toInt := congrArg Int32.toInt (((show cfr [] [(45, 19)] S S5_8 by rw [eS5_8]; exact cfr.oI y5_ (by decide))).kI (a := 44) (j := 14) ((y4_.2.1 _ finC_29).2.1) (by decide) (by decide))
      have t12_ : (qN S5_8 (qO S5_8 44 9) : Int) = (qN S (qO S 44 9) : Int) := ((show cfr [] [(45, 19)] S S5_8 by rw [eS5_8]; exact cfr.oI y5_ (by decide))).kN y4_ (a := 44) (j := 9) ((y4_.2.1 _ finC_29).2.1) (by decide) (by decide) ptrC_21
      exact trivial
    · refine ⟨fun c13_ => ?_, fun c13_ => ?_⟩
      · unfold w_X5_push_J42
        intro y7_
        intro S5_14 eS5_14 y8_ y9_
        have f := f.tr (show cfr [405] [(45, 14), (45, 19)] S S5_14 by rw [eS5_14]; exact cfr.oI y8_ (by decide))
        have t15_ : (qI S5_14 44 19).toInt = ((qI S 44 19) + (1 : Int32)).toInt := by rw [eS5_14, qI_wI, if_pos ⟨rfl, rfl⟩]
        have t16_ : (qI S5_14 44 11).toInt = (qI S 44 11).toInt := congrArg Int32.toInt (((show cfr [] [(45, 19)] S S5_14 by rw [eS5_14]; exact cfr.oI y8_ (by decide))).kI (a := 44) (j := 11) ((y7_.2.1 _ finC_29).2.1) (by decide) (by decide))
        have t17_ : (qI S5_14 44 14).toInt = (qI S 44 14).toInt := congrArg Int32.toInt (((show cfr [] [(45, 19)] S S5_14 by rw [eS5_14]; exact cfr.oI y8_ (by decide))).kI (a := 44) (j := 14) ((y7_.2.1 _ finC_29).2.1) (by decide) (by decide))
        have t18_ : (qN S5_14 (qO S5_14 44 9) : Int) = (qN S (qO S 44 9) : Int) := ((show cfr [] [(45, 19)] S S5_14 by rw [eS5_14]; exact cfr.oI y8_ (by decide))).kN y7_ (a := 44) (j := 9) ((y7_.2.1 _ finC_29).2.1) (by decide) (by decide) ptrC_21
        exact trivial
      · refine ⟨fun c19_ => ?_, fun c19_ => ?_⟩
        · refine ⟨?_, ?_⟩
          · have n1_ := rgI a3_0
            have n3_ := rgI ((qI S 44 11) * (24 : Int32))
            have n4_ := rgI (qI S 44 14)
            have n4_ := t_addD (a := ((qI S 44 11) * (24 : Int32))) (b := (qI S 44 14))
            have n5_ := rgI (((qI S 44 11) * (24 : Int32)) + (qI S 44 14))
            omega
          intro S14_20 eS14_20 y10_ y11_
          have f := f.tr (show cfr [405] [(45, 14), (45, 19)] S S14_20 by rw [eS14_20]; exact cfr.aJ y10_ (by decide))
          have t21_ : (qI S14_20 44 11).toInt = (qI S 44 11).toInt := congrArg Int32.toInt (((show cfr [405] [] S S14_20 by rw [eS14_20]; exact cfr.aJ y10_ (by decide))).kI (a := 44) (j := 11) ((hw.2.1 _ finC_29).2.1) (by decide) (by decide))
          have t22_ : (qI S14_20 44 14).toInt = (qI S 44 14).toInt := congrArg Int32.toInt (((show cfr [405] [] S S14_20 by rw [eS14_20]; exact cfr.aJ y10_ (by decide))).kI (a := 44) (j := 14) ((hw.2.1 _ finC_29).2.1) (by decide) (by decide))
          have t23_ : (qI S14_20 44 19).toInt = (qI S 44 19).toInt := congrArg Int32.toInt (((show cfr [405] [] S S14_20 by rw [eS14_20]; exact cfr.aJ y10_ (by decide))).kI (a := 44) (j := 19) ((hw.2.1 _ finC_29).2.1) (by decide) (by decide))
          have t24_ : (qN S14_20 (qO S14_20 44 9) : Int) = (qN S (qO S 44 9) : Int) := ((show cfr [405] [] S S14_20 by rw [eS14_20]; exact cfr.aJ y10_ (by decide))).kN hw (a := 44) (j := 9) ((hw.2.1 _ finC_29).2.1) (by decide) (by decide) ptrC_21
          intro S16_25 eS16_25 y12_ y13_
          have f := f.tr (show cfr [405] [(45, 14), (45, 19)] S14_20 S16_25 by rw [eS16_25]; exact cfr.oI y12_ (by decide))
          have t26_ : (qI S16_25 44 14).toInt = ((qI S14_20 44 14) + (1 : Int32)).toInt := by rw [eS16_25, qI_wI, if_pos ⟨rfl, rfl⟩]
          have t27_ : (qI S16_25 44 11).toInt = (qI S14_20 44 11).toInt := congrArg Int32.toInt (((show cfr [] [(45, 14)] S14_20 S16_25 by rw [eS16_25]; exact cfr.oI y12_ (by decide))).kI (a := 44) (j := 11) ((y11_.2.1 _ finC_29).2.1) (by decide) (by decide))
          have t28_ : (qI S16_25 44 19).toInt = (qI S14_20 44 19).toInt := congrArg Int32.toInt (((show cfr [] [(45, 14)] S14_20 S16_25 by rw [eS16_25]; exact cfr.oI y12_ (by decide))).kI (a := 44) (j := 19) ((y11_.2.1 _ finC_29).2.1) (by decide) (by decide))
          have t29_ : (qN S16_25 (qO S16_25 44 9) : Int) = (qN S14_20 (qO S14_20 44 9) : Int) := ((show cfr [] [(45, 14)] S14_20 S16_25 by rw [eS16_25]; exact cfr.oI y12_ (by decide))).kN y11_ (a := 44) (j := 9) ((y11_.2.1 _ finC_29).2.1) (by decide) (by decide) ptrC_21
          exact trivial
        · unfold w_X5_push_J42
          intro y14_
          intro S5_30 eS5_30 y15_ y16_
          have f := f.tr (show cfr [405] [(45, 14), (45, 19)] S S5_30 by rw [eS5_30]; exact cfr.oI y15_ (by decide))
          have t31_ : (qI S5_30 44 19).toInt = ((qI S 44 19) + (1 : Int32)).toInt := by rw [eS5_30, qI_wI, if_pos ⟨rfl, rfl⟩]
          have t32_ : (qI S5_30 44 11).toInt = (qI S 44 11).toInt := congrArg Int32.toInt (((show cfr [] [(45, 19)] S S5_30 by rw [eS5_30]; exact cfr.oI y15_ (by decide))).kI (a := 44) (j := 11) ((y14_.2.1 _ finC_29).2.1) (by decide) (by decide))
          have t33_ : (qI S5_30 44 14).toInt = (qI S 44 14).toInt := congrArg Int32.toInt (((show cfr [] [(45, 19)] S S5_30 by rw [eS5_30]; exact cfr.oI y15_ (by decide))).kI (a := 44) (j := 14) ((y14_.2.1 _ finC_29).2.1) (by decide) (by decide))
          have t34_ : (qN S5_30 (qO S5_30 44 9) : Int) = (qN S (qO S 44 9) : Int) := ((show cfr [] [(45, 19)] S S5_30 by rw [eS5_30]; exact cfr.oI y15_ (by decide))).kN y14_ (a := 44) (j := 9) ((y14_.2.1 _ finC_29).2.1) (by decide) (by decide) ptrC_21
          exact trivial
set_option maxRecDepth 100000 in
theorem sfX5_pop {S : MS} (hw : wfC S)  : wX5_pop S (fun _ _ => True) := by
  have f : cfr [] [(45, 14), (45, 19)] S S := cfr.rf
  unfold wX5_pop
  intro a4_0 ea4_0 
  have ga4_0 := congrArg Int32.toInt ea4_0
  refine ⟨fun c1_ => ?_, fun c1_ => ?_⟩
  · unfold w_X5_pop_J45
    intro y1_
    intro S6_2 eS6_2 y2_ y3_
    have f := f.tr (show cfr [] [(45, 14), (45, 19)] S S6_2 by rw [eS6_2]; exact cfr.oI y2_ (by decide))
    have t3_ : (qI S6_2 44 19).toInt = ((qI S 44 19) + (1 : Int32)).toInt := by rw [eS6_2, qI_wI, if_pos ⟨rfl, rfl⟩]
    have t4_ : (qI S6_2 44 11).toInt = (qI S 44 11).toInt := congrArg Int32.toInt (((show cfr [] [(45, 19)] S S6_2 by rw [eS6_2]; exact cfr.oI y2_ (by decide))).kI (a := 44) (j := 11) ((y1_.2.1 _ finC_29).2.1) (by decide) (by decide))
    have t5_ : (qI S6_2 44 14).toInt = (qI S 44 14).toInt := congrArg Int32.toInt (((show cfr [] [(45, 19)] S S6_2 by rw [eS6_2]; exact cfr.oI y2_ (by decide))).kI (a := 44) (j := 14) ((y1_.2.1 _ finC_29).2.1) (by decide) (by decide))
    have t6_ : (qN S6_2 (qO S6_2 44 9) : Int) = (qN S (qO S 44 9) : Int) := ((show cfr [] [(45, 19)] S S6_2 by rw [eS6_2]; exact cfr.oI y2_ (by decide))).kN y1_ (a := 44) (j := 9) ((y1_.2.1 _ finC_29).2.1) (by decide) (by decide) ptrC_21
    exact trivial
  · refine ⟨fun c7_ => ?_, fun c7_ => ?_⟩
    · unfold w_X5_pop_J45
      intro y4_
      intro S6_8 eS6_8 y5_ y6_
      have f := f.tr (show cfr [] [(45, 14), (45, 19)] S S6_8 by rw [eS6_8]; exact cfr.oI y5_ (by decide))
      have t9_ : (qI S6_8 44 19).toInt = ((qI S 44 19) + (1 : Int32)).toInt := by rw [eS6_8, qI_wI, if_pos ⟨rfl, rfl⟩]
      have t10_ : (qI S6_8 44 11).toInt = (qI S 44 11).toInt := congrArg Int32.toInt (((show cfr [] [(45, 19)] S S6_8 by rw [eS6_8]; exact cfr.oI y5_ (by decide))).kI (a := 44) (j := 11) ((y4_.2.1 _ finC_29).2.1) (by decide) (by decide))
      have t11_ : (qI S6_8 44 14).toInt = (qI S 44 14).toInt := congrArg Int32.toInt (((show cfr [] [(45, 19)] S S6_8 by rw [eS6_8]; exact cfr.oI y5_ (by decide))).kI (a := 44) (j := 14) ((y4_.2.1 _ finC_29).2.1) (by decide) (by decide))
      have t12_ : (qN S6_8 (qO S6_8 44 9) : Int) = (qN S (qO S 44 9) : Int) := ((show cfr [] [(45, 19)] S S6_8 by rw [eS6_8]; exact cfr.oI y5_ (by decide))).kN y4_ (a := 44) (j := 9) ((y4_.2.1 _ finC_29).2.1) (by decide) (by decide) ptrC_21
      exact trivial
    · refine ⟨fun c13_ => ?_, fun c13_ => ?_⟩
      · unfold w_X5_pop_J45
        intro y7_
        intro S6_14 eS6_14 y8_ y9_
        have f := f.tr (show cfr [] [(45, 14), (45, 19)] S S6_14 by rw [eS6_14]; exact cfr.oI y8_ (by decide))
        have t15_ : (qI S6_14 44 19).toInt = ((qI S 44 19) + (1 : Int32)).toInt := by rw [eS6_14, qI_wI, if_pos ⟨rfl, rfl⟩]
        have t16_ : (qI S6_14 44 11).toInt = (qI S 44 11).toInt := congrArg Int32.toInt (((show cfr [] [(45, 19)] S S6_14 by rw [eS6_14]; exact cfr.oI y8_ (by decide))).kI (a := 44) (j := 11) ((y7_.2.1 _ finC_29).2.1) (by decide) (by decide))
        have t17_ : (qI S6_14 44 14).toInt = (qI S 44 14).toInt := congrArg Int32.toInt (((show cfr [] [(45, 19)] S S6_14 by rw [eS6_14]; exact cfr.oI y8_ (by decide))).kI (a := 44) (j := 14) ((y7_.2.1 _ finC_29).2.1) (by decide) (by decide))
        have t18_ : (qN S6_14 (qO S6_14 44 9) : Int) = (qN S (qO S 44 9) : Int) := ((show cfr [] [(45, 19)] S S6_14 by rw [eS6_14]; exact cfr.oI y8_ (by decide))).kN y7_ (a := 44) (j := 9) ((y7_.2.1 _ finC_29).2.1) (by decide) (by decide) ptrC_21
        exact trivial
      · refine ⟨fun c19_ => ?_, fun c19_ => ?_⟩
        · intro S14_20 eS14_20 y10_ y11_
          have f := f.tr (show cfr [] [(45, 14), (45, 19)] S S14_20 by rw [eS14_20]; exact cfr.oI y10_ (by decide))
          have t21_ : (qI S14_20 44 14).toInt = ((qI S 44 14) - (1 : Int32)).toInt := by rw [eS14_20, qI_wI, if_pos ⟨rfl, rfl⟩]
          have t22_ : (qI S14_20 44 11).toInt = (qI S 44 11).toInt := congrArg Int32.toInt (((show cfr [] [(45, 14)] S S14_20 by rw [eS14_20]; exact cfr.oI y10_ (by decide))).kI (a := 44) (j := 11) ((hw.2.1 _ finC_29).2.1) (by decide) (by decide))
          have t23_ : (qI S14_20 44 19).toInt = (qI S 44 19).toInt := congrArg Int32.toInt (((show cfr [] [(45, 14)] S S14_20 by rw [eS14_20]; exact cfr.oI y10_ (by decide))).kI (a := 44) (j := 19) ((hw.2.1 _ finC_29).2.1) (by decide) (by decide))
          have t24_ : (qN S14_20 (qO S14_20 44 9) : Int) = (qN S (qO S 44 9) : Int) := ((show cfr [] [(45, 14)] S S14_20 by rw [eS14_20]; exact cfr.oI y10_ (by decide))).kN hw (a := 44) (j := 9) ((hw.2.1 _ finC_29).2.1) (by decide) (by decide) ptrC_21
          refine ⟨?_, ?_⟩
          · have n1_ := rgI a4_0
            have n4_ := rgI ((qI S 44 11) * (24 : Int32))
            have n5_ := rgI (qI S 44 14)
            have n5_ := t_addD (a := ((qI S 44 11) * (24 : Int32))) (b := (qI S 44 14))
            have n6_ := rgI (((qI S 44 11) * (24 : Int32)) + (qI S 44 14))
            have n7_ := li_1k
            have n7_ := t_subD (a := (((qI S 44 11) * (24 : Int32)) + (qI S 44 14))) (b := (1 : Int32))
            have n8_ := rgI ((((qI S 44 11) * (24 : Int32)) + (qI S 44 14)) - (1 : Int32))
            have n9_ := rgI (qI S14_20 44 14)
            have n10_ := t_subD (a := (qI S 44 14)) (b := (1 : Int32))
            have n11_ := rgI ((qI S 44 14) - (1 : Int32))
            omega
          exact trivial
        · unfold w_X5_pop_J45
          intro y12_
          intro S6_25 eS6_25 y13_ y14_
          have f := f.tr (show cfr [] [(45, 14), (45, 19)] S S6_25 by rw [eS6_25]; exact cfr.oI y13_ (by decide))
          have t26_ : (qI S6_25 44 19).toInt = ((qI S 44 19) + (1 : Int32)).toInt := by rw [eS6_25, qI_wI, if_pos ⟨rfl, rfl⟩]
          have t27_ : (qI S6_25 44 11).toInt = (qI S 44 11).toInt := congrArg Int32.toInt (((show cfr [] [(45, 19)] S S6_25 by rw [eS6_25]; exact cfr.oI y13_ (by decide))).kI (a := 44) (j := 11) ((y12_.2.1 _ finC_29).2.1) (by decide) (by decide))
          have t28_ : (qI S6_25 44 14).toInt = (qI S 44 14).toInt := congrArg Int32.toInt (((show cfr [] [(45, 19)] S S6_25 by rw [eS6_25]; exact cfr.oI y13_ (by decide))).kI (a := 44) (j := 14) ((y12_.2.1 _ finC_29).2.1) (by decide) (by decide))
          have t29_ : (qN S6_25 (qO S6_25 44 9) : Int) = (qN S (qO S 44 9) : Int) := ((show cfr [] [(45, 19)] S S6_25 by rw [eS6_25]; exact cfr.oI y13_ (by decide))).kN y12_ (a := 44) (j := 9) ((y12_.2.1 _ finC_29).2.1) (by decide) (by decide) ptrC_21
          exact trivial
set_option maxRecDepth 100000 in
theorem sfX5_push_ {S : MS} {x1 : Int32} {y2 : Int64} (hw : wfC S)  : wX5_push_ S x1 y2 (fun _ => True) := by
  have f : cfr [405] [(45, 14), (45, 19)] S S := cfr.rf
  unfold wX5_push_
  refine ⟨fun c0_ => ?_, fun c0_ => ?_⟩
  · unfold w_X5_push__J9
    intro y1_
    refine ⟨fun c1_ => ?_, fun c1_ => ?_⟩
    · refine ⟨_, frX5_push y1_ (sfX5_push y1_ ), ?_⟩
      intro S3_2 q2_ y3_ y4_
      have f := f.tr (q2_.2.mo (by decide) (by decide))
      exact trivial
    · exact trivial
  · refine ⟨_, frX5_push hw (sfX5_push hw ), ?_⟩
    intro S7_3 q5_ y6_ y7_
    have f := f.tr (q5_.2.mo (by decide) (by decide))
    unfold w_X5_push__J9
    intro y8_
    refine ⟨fun c4_ => ?_, fun c4_ => ?_⟩
    · refine ⟨_, frX5_push y8_ (sfX5_push y8_ ), ?_⟩
      intro S3_5 q9_ y10_ y11_
      have f := f.tr (q9_.2.mo (by decide) (by decide))
      exact trivial
    · exact trivial
set_option maxRecDepth 100000 in
theorem sfX5_pop_ {S : MS} {x1 : Int32} (hw : wfC S)  : wX5_pop_ S x1 (fun _ _ => True) := by
  have f : cfr [] [(45, 14), (45, 19)] S S := cfr.rf
  unfold wX5_pop_
  refine ⟨fun c0_ => ?_, fun c0_ => ?_⟩
  · refine ⟨_, frX5_pop hw (sfX5_pop hw ), ?_⟩
    intro r8_1 S9_1 q1_ y2_ y3_
    have f := f.tr (q1_.2.mo (by decide) (by decide))
    unfold w_X5_pop__J10
    intro y4_
    refine ⟨fun c2_ => ?_, fun c2_ => ?_⟩
    · exact trivial
    · refine ⟨_, frX5_pop y4_ (sfX5_pop y4_ ), ?_⟩
      intro r3_3 S4_3 q5_ y6_ y7_
      have f := f.tr (q5_.2.mo (by decide) (by decide))
      exact trivial
  · unfold w_X5_pop__J10
    intro y8_
    refine ⟨fun c4_ => ?_, fun c4_ => ?_⟩
    · exact trivial
    · refine ⟨_, frX5_pop y8_ (sfX5_pop y8_ ), ?_⟩
      intro r3_5 S4_5 q9_ y10_ y11_
      have f := f.tr (q9_.2.mo (by decide) (by decide))
      exact trivial
set_option maxRecDepth 100000 in
theorem sfX5_shuffle {S : MS} {x1 : Int32} (hw : wfC S)  : wX5_shuffle S x1 (fun _ => True) := by
  have f : cfr [405] [(45, 14), (45, 19)] S S := cfr.rf
  unfold wX5_shuffle
  refine ⟨_, frX5_pop hw (sfX5_pop hw ), ?_⟩
  intro r2_0 S3_0 q1_ y2_ y3_
  have f := f.tr (q1_.2.mo (by decide) (by decide))
  refine ⟨fun c1_ => ?_, fun c1_ => ?_⟩
  · unfold w_X5_shuffle_J17
    intro y4_
    unfold w_X5_shuffle_J25
    intro y5_
    refine ⟨fun c2_ => ?_, fun c2_ => ?_⟩
    · refine ⟨_, frX5_push y5_ (sfX5_push y5_ ), ?_⟩
      intro S6_3 q6_ y7_ y8_
      have f := f.tr (q6_.2.mo (by decide) (by decide))
      refine ⟨_, frX5_push y7_ (sfX5_push y7_ ), ?_⟩
      intro S9_4 q9_ y10_ y11_
      have f := f.tr (q9_.2.mo (by decide) (by decide))
      exact trivial
    · refine ⟨fun c5_ => ?_, fun c5_ => ?_⟩
      · refine ⟨_, frX5_push y5_ (sfX5_push y5_ ), ?_⟩
        intro S12_6 q12_ y13_ y14_
        have f := f.tr (q12_.2.mo (by decide) (by decide))
        refine ⟨_, frX5_push y13_ (sfX5_push y13_ ), ?_⟩
        intro S15_7 q15_ y16_ y17_
        have f := f.tr (q15_.2.mo (by decide) (by decide))
        refine ⟨_, frX5_push y16_ (sfX5_push y16_ ), ?_⟩
        intro S18_8 q18_ y19_ y20_
        have f := f.tr (q18_.2.mo (by decide) (by decide))
        exact trivial
      · refine ⟨fun c9_ => ?_, fun c9_ => ?_⟩
        · exact trivial
        · refine ⟨fun c10_ => ?_, fun c10_ => ?_⟩
          · refine ⟨_, frX5_push y5_ (sfX5_push y5_ ), ?_⟩
            intro S21_11 q21_ y22_ y23_
            have f := f.tr (q21_.2.mo (by decide) (by decide))
            refine ⟨_, frX5_push y22_ (sfX5_push y22_ ), ?_⟩
            intro S24_12 q24_ y25_ y26_
            have f := f.tr (q24_.2.mo (by decide) (by decide))
            refine ⟨_, frX5_push y25_ (sfX5_push y25_ ), ?_⟩
            intro S27_13 q27_ y28_ y29_
            have f := f.tr (q27_.2.mo (by decide) (by decide))
            refine ⟨_, frX5_push y28_ (sfX5_push y28_ ), ?_⟩
            intro S30_14 q30_ y31_ y32_
            have f := f.tr (q30_.2.mo (by decide) (by decide))
            exact trivial
          · refine ⟨fun c15_ => ?_, fun c15_ => ?_⟩
            · exact trivial
            · refine ⟨fun c16_ => ?_, fun c16_ => ?_⟩
              · exact trivial
              · refine ⟨fun c17_ => ?_, fun c17_ => ?_⟩
                · refine ⟨_, frX5_push y5_ (sfX5_push y5_ ), ?_⟩
                  intro S33_18 q33_ y34_ y35_
                  have f := f.tr (q33_.2.mo (by decide) (by decide))
                  refine ⟨_, frX5_push y34_ (sfX5_push y34_ ), ?_⟩
                  intro S36_19 q36_ y37_ y38_
                  have f := f.tr (q36_.2.mo (by decide) (by decide))
                  exact trivial
                · exact trivial
  · refine ⟨fun c20_ => ?_, fun c20_ => ?_⟩
    · unfold w_X5_shuffle_J17
      intro y39_
      unfold w_X5_shuffle_J25
      intro y40_
      refine ⟨fun c21_ => ?_, fun c21_ => ?_⟩
      · refine ⟨_, frX5_push y40_ (sfX5_push y40_ ), ?_⟩
        intro S6_22 q41_ y42_ y43_
        have f := f.tr (q41_.2.mo (by decide) (by decide))
        refine ⟨_, frX5_push y42_ (sfX5_push y42_ ), ?_⟩
        intro S9_23 q44_ y45_ y46_
        have f := f.tr (q44_.2.mo (by decide) (by decide))
        exact trivial
      · refine ⟨fun c24_ => ?_, fun c24_ => ?_⟩
        · refine ⟨_, frX5_push y40_ (sfX5_push y40_ ), ?_⟩
          intro S12_25 q47_ y48_ y49_
          have f := f.tr (q47_.2.mo (by decide) (by decide))
          refine ⟨_, frX5_push y48_ (sfX5_push y48_ ), ?_⟩
          intro S15_26 q50_ y51_ y52_
          have f := f.tr (q50_.2.mo (by decide) (by decide))
          refine ⟨_, frX5_push y51_ (sfX5_push y51_ ), ?_⟩
          intro S18_27 q53_ y54_ y55_
          have f := f.tr (q53_.2.mo (by decide) (by decide))
          exact trivial
        · refine ⟨fun c28_ => ?_, fun c28_ => ?_⟩
          · exact trivial
          · refine ⟨fun c29_ => ?_, fun c29_ => ?_⟩
            · refine ⟨_, frX5_push y40_ (sfX5_push y40_ ), ?_⟩
              intro S21_30 q56_ y57_ y58_
              have f := f.tr (q56_.2.mo (by decide) (by decide))
              refine ⟨_, frX5_push y57_ (sfX5_push y57_ ), ?_⟩
              intro S24_31 q59_ y60_ y61_
              have f := f.tr (q59_.2.mo (by decide) (by decide))
              refine ⟨_, frX5_push y60_ (sfX5_push y60_ ), ?_⟩
              intro S27_32 q62_ y63_ y64_
              have f := f.tr (q62_.2.mo (by decide) (by decide))
              refine ⟨_, frX5_push y63_ (sfX5_push y63_ ), ?_⟩
              intro S30_33 q65_ y66_ y67_
              have f := f.tr (q65_.2.mo (by decide) (by decide))
              exact trivial
            · refine ⟨fun c34_ => ?_, fun c34_ => ?_⟩
              · exact trivial
              · refine ⟨fun c35_ => ?_, fun c35_ => ?_⟩
                · exact trivial
                · refine ⟨fun c36_ => ?_, fun c36_ => ?_⟩
                  · refine ⟨_, frX5_push y40_ (sfX5_push y40_ ), ?_⟩
                    intro S33_37 q68_ y69_ y70_
                    have f := f.tr (q68_.2.mo (by decide) (by decide))
                    refine ⟨_, frX5_push y69_ (sfX5_push y69_ ), ?_⟩
                    intro S36_38 q71_ y72_ y73_
                    have f := f.tr (q71_.2.mo (by decide) (by decide))
                    exact trivial
                  · exact trivial
    · refine ⟨_, frX5_pop y2_ (sfX5_pop y2_ ), ?_⟩
      intro r41_39 S42_39 q74_ y75_ y76_
      have f := f.tr (q74_.2.mo (by decide) (by decide))
      unfold w_X5_shuffle_J25
      intro y77_
      refine ⟨fun c40_ => ?_, fun c40_ => ?_⟩
      · refine ⟨_, frX5_push y77_ (sfX5_push y77_ ), ?_⟩
        intro S6_41 q78_ y79_ y80_
        have f := f.tr (q78_.2.mo (by decide) (by decide))
        refine ⟨_, frX5_push y79_ (sfX5_push y79_ ), ?_⟩
        intro S9_42 q81_ y82_ y83_
        have f := f.tr (q81_.2.mo (by decide) (by decide))
        exact trivial
      · refine ⟨fun c43_ => ?_, fun c43_ => ?_⟩
        · refine ⟨_, frX5_push y77_ (sfX5_push y77_ ), ?_⟩
          intro S12_44 q84_ y85_ y86_
          have f := f.tr (q84_.2.mo (by decide) (by decide))
          refine ⟨_, frX5_push y85_ (sfX5_push y85_ ), ?_⟩
          intro S15_45 q87_ y88_ y89_
          have f := f.tr (q87_.2.mo (by decide) (by decide))
          refine ⟨_, frX5_push y88_ (sfX5_push y88_ ), ?_⟩
          intro S18_46 q90_ y91_ y92_
          have f := f.tr (q90_.2.mo (by decide) (by decide))
          exact trivial
        · refine ⟨fun c47_ => ?_, fun c47_ => ?_⟩
          · exact trivial
          · refine ⟨fun c48_ => ?_, fun c48_ => ?_⟩
            · refine ⟨_, frX5_push y77_ (sfX5_push y77_ ), ?_⟩
              intro S21_49 q93_ y94_ y95_
              have f := f.tr (q93_.2.mo (by decide) (by decide))
              refine ⟨_, frX5_push y94_ (sfX5_push y94_ ), ?_⟩
              intro S24_50 q96_ y97_ y98_
              have f := f.tr (q96_.2.mo (by decide) (by decide))
              refine ⟨_, frX5_push y97_ (sfX5_push y97_ ), ?_⟩
              intro S27_51 q99_ y100_ y101_
              have f := f.tr (q99_.2.mo (by decide) (by decide))
              refine ⟨_, frX5_push y100_ (sfX5_push y100_ ), ?_⟩
              intro S30_52 q102_ y103_ y104_
              have f := f.tr (q102_.2.mo (by decide) (by decide))
              exact trivial
            · refine ⟨fun c53_ => ?_, fun c53_ => ?_⟩
              · exact trivial
              · refine ⟨fun c54_ => ?_, fun c54_ => ?_⟩
                · exact trivial
                · refine ⟨fun c55_ => ?_, fun c55_ => ?_⟩
                  · refine ⟨_, frX5_push y77_ (sfX5_push y77_ ), ?_⟩
                    intro S33_56 q105_ y106_ y107_
                    have f := f.tr (q105_.2.mo (by decide) (by decide))
                    refine ⟨_, frX5_push y106_ (sfX5_push y106_ ), ?_⟩
                    intro S36_57 q108_ y109_ y110_
                    have f := f.tr (q108_.2.mo (by decide) (by decide))
                    exact trivial
                  · exact trivial
set_option maxRecDepth 100000 in
theorem sfX5_setField {S : MS} {x1 : Int32} {y2 : Int64} (hw : wfC S)  : wX5_setField S x1 y2 (fun _ => True) := by
  have f : cfr [402] [(45, 19)] S S := cfr.rf
  unfold wX5_setField
  refine ⟨fun c0_ => ?_, fun c0_ => ?_⟩
  · unfold w_X5_setField_J10
    intro y1_
    intro S2_1 eS2_1 y2_ y3_
    have f := f.tr (show cfr [402] [(45, 19)] S S2_1 by rw [eS2_1]; exact cfr.oI y2_ (by decide))
    have t2_ : (qI S2_1 44 19).toInt = ((qI S 44 19) + (1 : Int32)).toInt := by rw [eS2_1, qI_wI, if_pos ⟨rfl, rfl⟩]
    exact trivial
  · refine ⟨fun c3_ => ?_, fun c3_ => ?_⟩
    · refine ⟨?_, ?_⟩
      · have n1_ := rgI x1
        omega
      intro S6_4 eS6_4 y4_ y5_
      have f := f.tr (show cfr [402] [(45, 19)] S S6_4 by rw [eS6_4]; exact cfr.aJ y4_ (by decide))
      have t5_ : (qI S6_4 44 19).toInt = (qI S 44 19).toInt := congrArg Int32.toInt (((show cfr [402] [] S S6_4 by rw [eS6_4]; exact cfr.aJ y4_ (by decide))).kI (a := 44) (j := 19) ((hw.2.1 _ finC_29).2.1) (by decide) (by decide))
      exact trivial
    · unfold w_X5_setField_J10
      intro y6_
      intro S2_6 eS2_6 y7_ y8_
      have f := f.tr (show cfr [402] [(45, 19)] S S2_6 by rw [eS2_6]; exact cfr.oI y7_ (by decide))
      have t7_ : (qI S2_6 44 19).toInt = ((qI S 44 19) + (1 : Int32)).toInt := by rw [eS2_6, qI_wI, if_pos ⟨rfl, rfl⟩]
      exact trivial
set_option maxRecDepth 100000 in
theorem sfX9_forgetApplied {S : MS} (hw : wfC S)  : wX9_forgetApplied S (fun _ => True) := by
  have f : cfr [228] [] S S := cfr.rf
  unfold wX9_forgetApplied
  intro y1_
  refine ⟨_, frJ7_fill_53178 y1_ (by decide) (sfJ7_fill_53178 hw y1_ (by decide)), ?_⟩
  intro S2_0 q2_ y3_ y4_
  have f := f.tr (q2_.2.mo (by decide) (by decide))
  exact trivial
set_option maxRecDepth 100000 in
theorem sfX9_mark {S : MS} {x1 : Int32} (hw : wfC S)  : wX9_mark S x1 (fun _ => True) := by
  have f : cfr [305] [] S S := cfr.rf
  unfold wX9_mark
  refine ⟨fun c0_ => ?_, fun c0_ => ?_⟩
  · exact trivial
  · refine ⟨fun c1_ => ?_, fun c1_ => ?_⟩
    · exact trivial
    · refine ⟨?_, ?_⟩
      · have n1_ := rgI x1
        omega
      intro S7_2 eS7_2 y1_ y2_
      have f := f.tr (show cfr [305] [] S S7_2 by rw [eS7_2]; exact cfr.aI y1_ (by decide))
      have t3_ : (qN S7_2 (qO S7_2 66 2) : Int) = (qN S (qO S 66 2) : Int) := ((show cfr [305] [] S S7_2 by rw [eS7_2]; exact cfr.aI y1_ (by decide))).kN hw (a := 66) (j := 2) ((hw.2.1 _ finC_31).2.1) (by decide) (by decide) ptrC_35
      exact trivial
set_option maxRecDepth 100000 in
theorem sfX1_load {S : MS} {x1 : Int32} {x2 : Int32} (hw : wfC S)  : wX1_load S x1 x2 (fun _ => True) := by
  have f : cfr [103] [(41, 5), (41, 6)] S S := cfr.rf
  unfold wX1_load
  refine ⟨?_, ?_⟩
  · exact dd_X1_placeAt
  intro a4_0 ea4_0 
  have ga4_0 := congrArg Int32.toInt ea4_0
  refine ⟨fun c1_ => ?_, fun c1_ => ?_⟩
  · refine ⟨?_, ?_⟩
    · exact dd_X1_isReference
    intro a30_2 ea30_2 
    have ga30_2 := congrArg Int32.toInt ea30_2
    refine ⟨fun c3_ => ?_, fun c3_ => ?_⟩
    · unfold w_X1_load_J29
      intro y1_ y2_
      refine ⟨?_, ?_⟩
      · exact (bit_or (y1_.bit ((y1_.2.1 _ finC_27).2.1) (by decide)) (Or.inr rfl))
      intro S33_4 eS33_4 y3_ y4_
      have f := f.tr (show cfr [103] [(41, 5), (41, 6)] S S33_4 by rw [eS33_4]; exact cfr.oI y3_ (by decide))
      have t5_ : (qI S33_4 16 6).toInt = ((qI S 16 6) ||| (1 : Int32)).toInt := by rw [eS33_4, qI_wI, if_pos ⟨rfl, rfl⟩]
      refine ⟨?_, ?_⟩
      · exact dd_X1_isReference
      intro a37_6 ea37_6 
      have ga37_6 := congrArg Int32.toInt ea37_6
      refine ⟨fun c7_ => ?_, fun c7_ => ?_⟩
      · refine ⟨_, frX1_push y4_ (sfX1_push y4_ ), ?_⟩
        intro S40_8 q5_ y6_ y7_
        have f := f.tr (q5_.2.mo (by decide) (by decide))
        have t9_ : (qI S40_8 16 6).toInt = (qI S33_4 16 6).toInt := congrArg Int32.toInt ((q5_.2).kI (a := 16) (j := 6) ((y4_.2.1 _ finC_27).2.1) (by decide) (by decide))
        exact trivial
      · refine ⟨_, frX1_push y4_ (sfX1_push y4_ ), ?_⟩
        intro S43_10 q8_ y9_ y10_
        have f := f.tr (q8_.2.mo (by decide) (by decide))
        have t11_ : (qI S43_10 16 6).toInt = (qI S33_4 16 6).toInt := congrArg Int32.toInt ((q8_.2).kI (a := 16) (j := 6) ((y4_.2.1 _ finC_27).2.1) (by decide) (by decide))
        exact trivial
    · unfold w_X1_load_J29
      intro y11_ y12_
      refine ⟨?_, ?_⟩
      · exact (bit_or (y11_.bit ((y11_.2.1 _ finC_27).2.1) (by decide)) (Or.inl rfl))
      intro S33_12 eS33_12 y13_ y14_
      have f := f.tr (show cfr [103] [(41, 5), (41, 6)] S S33_12 by rw [eS33_12]; exact cfr.oI y13_ (by decide))
      have t13_ : (qI S33_12 16 6).toInt = ((qI S 16 6) ||| (0 : Int32)).toInt := by rw [eS33_12, qI_wI, if_pos ⟨rfl, rfl⟩]
      refine ⟨?_, ?_⟩
      · exact dd_X1_isReference
      intro a37_14 ea37_14 
      have ga37_14 := congrArg Int32.toInt ea37_14
      refine ⟨fun c15_ => ?_, fun c15_ => ?_⟩
      · refine ⟨_, frX1_push y14_ (sfX1_push y14_ ), ?_⟩
        intro S40_16 q15_ y16_ y17_
        have f := f.tr (q15_.2.mo (by decide) (by decide))
        have t17_ : (qI S40_16 16 6).toInt = (qI S33_12 16 6).toInt := congrArg Int32.toInt ((q15_.2).kI (a := 16) (j := 6) ((y14_.2.1 _ finC_27).2.1) (by decide) (by decide))
        exact trivial
      · refine ⟨_, frX1_push y14_ (sfX1_push y14_ ), ?_⟩
        intro S43_18 q18_ y19_ y20_
        have f := f.tr (q18_.2.mo (by decide) (by decide))
        have t19_ : (qI S43_18 16 6).toInt = (qI S33_12 16 6).toInt := congrArg Int32.toInt ((q18_.2).kI (a := 16) (j := 6) ((y14_.2.1 _ finC_27).2.1) (by decide) (by decide))
        exact trivial
  · refine ⟨fun c20_ => ?_, fun c20_ => ?_⟩
    · refine ⟨fun c21_ => ?_, fun c21_ => ?_⟩
      · unfold w_X1_load_J95
        intro y21_ y22_
        refine ⟨?_, ?_⟩
        · exact (bit_or (y21_.bit ((y21_.2.1 _ finC_27).2.1) (by decide)) (Or.inl rfl))
        intro S9_22 eS9_22 y23_ y24_
        have f := f.tr (show cfr [103] [(41, 5), (41, 6)] S S9_22 by rw [eS9_22]; exact cfr.oI y23_ (by decide))
        have t23_ : (qI S9_22 16 6).toInt = ((qI S 16 6) ||| (0 : Int32)).toInt := by rw [eS9_22, qI_wI, if_pos ⟨rfl, rfl⟩]
        refine ⟨?_, ?_⟩
        · exact dd_X6_gives
        intro a13_24 ea13_24 
        have ga13_24 := congrArg Int32.toInt ea13_24
        refine ⟨_, frX1_give y24_ (sfX1_give y24_ ), ?_⟩
        intro S15_25 q25_ y26_ y27_
        have f := f.tr (q25_.2.mo (by decide) (by decide))
        have t26_ : (qI S15_25 16 6).toInt = (qI S9_22 16 6).toInt := congrArg Int32.toInt ((q25_.2).kI (a := 16) (j := 6) ((y24_.2.1 _ finC_27).2.1) (by decide) (by decide))
        exact trivial
      · unfold w_X1_load_J95
        intro y28_ y29_
        refine ⟨?_, ?_⟩
        · exact (bit_or (y28_.bit ((y28_.2.1 _ finC_27).2.1) (by decide)) (Or.inr rfl))
        intro S9_27 eS9_27 y30_ y31_
        have f := f.tr (show cfr [103] [(41, 5), (41, 6)] S S9_27 by rw [eS9_27]; exact cfr.oI y30_ (by decide))
        have t28_ : (qI S9_27 16 6).toInt = ((qI S 16 6) ||| (1 : Int32)).toInt := by rw [eS9_27, qI_wI, if_pos ⟨rfl, rfl⟩]
        refine ⟨?_, ?_⟩
        · exact dd_X6_gives
        intro a13_29 ea13_29 
        have ga13_29 := congrArg Int32.toInt ea13_29
        refine ⟨_, frX1_give y31_ (sfX1_give y31_ ), ?_⟩
        intro S15_30 q32_ y33_ y34_
        have f := f.tr (q32_.2.mo (by decide) (by decide))
        have t31_ : (qI S15_30 16 6).toInt = (qI S9_27 16 6).toInt := congrArg Int32.toInt ((q32_.2).kI (a := 16) (j := 6) ((y31_.2.1 _ finC_27).2.1) (by decide) (by decide))
        exact trivial
    · refine ⟨fun c32_ => ?_, fun c32_ => ?_⟩
      · refine ⟨?_, ?_⟩
        · exact dd_X1_placeAt
        intro a23_33 ea23_33 
        have ga23_33 := congrArg Int32.toInt ea23_33
        refine ⟨fun c34_ => ?_, fun c34_ => ?_⟩
        · unfold w_X1_load_J95
          intro y35_ y36_
          refine ⟨?_, ?_⟩
          · exact (bit_or (y35_.bit ((y35_.2.1 _ finC_27).2.1) (by decide)) (Or.inl rfl))
          intro S9_35 eS9_35 y37_ y38_
          have f := f.tr (show cfr [103] [(41, 5), (41, 6)] S S9_35 by rw [eS9_35]; exact cfr.oI y37_ (by decide))
          have t36_ : (qI S9_35 16 6).toInt = ((qI S 16 6) ||| (0 : Int32)).toInt := by rw [eS9_35, qI_wI, if_pos ⟨rfl, rfl⟩]
          refine ⟨?_, ?_⟩
          · exact dd_X6_gives
          intro a13_37 ea13_37 
          have ga13_37 := congrArg Int32.toInt ea13_37
          refine ⟨_, frX1_give y38_ (sfX1_give y38_ ), ?_⟩
          intro S15_38 q39_ y40_ y41_
          have f := f.tr (q39_.2.mo (by decide) (by decide))
          have t39_ : (qI S15_38 16 6).toInt = (qI S9_35 16 6).toInt := congrArg Int32.toInt ((q39_.2).kI (a := 16) (j := 6) ((y38_.2.1 _ finC_27).2.1) (by decide) (by decide))
          exact trivial
        · unfold w_X1_load_J90
          intro y42_
          unfold w_X1_load_J95
          intro y43_ y44_
          refine ⟨?_, ?_⟩
          · exact (bit_or (y43_.bit ((y43_.2.1 _ finC_27).2.1) (by decide)) (Or.inr rfl))
          intro S9_40 eS9_40 y45_ y46_
          have f := f.tr (show cfr [103] [(41, 5), (41, 6)] S S9_40 by rw [eS9_40]; exact cfr.oI y45_ (by decide))
          have t41_ : (qI S9_40 16 6).toInt = ((qI S 16 6) ||| (1 : Int32)).toInt := by rw [eS9_40, qI_wI, if_pos ⟨rfl, rfl⟩]
          refine ⟨?_, ?_⟩
          · exact dd_X6_gives
          intro a13_42 ea13_42 
          have ga13_42 := congrArg Int32.toInt ea13_42
          refine ⟨_, frX1_give y46_ (sfX1_give y46_ ), ?_⟩
          intro S15_43 q47_ y48_ y49_
          have f := f.tr (q47_.2.mo (by decide) (by decide))
          have t44_ : (qI S15_43 16 6).toInt = (qI S9_40 16 6).toInt := congrArg Int32.toInt ((q47_.2).kI (a := 16) (j := 6) ((y46_.2.1 _ finC_27).2.1) (by decide) (by decide))
          exact trivial
      · unfold w_X1_load_J90
        intro y50_
        unfold w_X1_load_J95
        intro y51_ y52_
        refine ⟨?_, ?_⟩
        · exact (bit_or (y51_.bit ((y51_.2.1 _ finC_27).2.1) (by decide)) (Or.inr rfl))
        intro S9_45 eS9_45 y53_ y54_
        have f := f.tr (show cfr [103] [(41, 5), (41, 6)] S S9_45 by rw [eS9_45]; exact cfr.oI y53_ (by decide))
        have t46_ : (qI S9_45 16 6).toInt = ((qI S 16 6) ||| (1 : Int32)).toInt := by rw [eS9_45, qI_wI, if_pos ⟨rfl, rfl⟩]
        refine ⟨?_, ?_⟩
        · exact dd_X6_gives
        intro a13_47 ea13_47 
        have ga13_47 := congrArg Int32.toInt ea13_47
        refine ⟨_, frX1_give y54_ (sfX1_give y54_ ), ?_⟩
        intro S15_48 q55_ y56_ y57_
        have f := f.tr (q55_.2.mo (by decide) (by decide))
        have t49_ : (qI S15_48 16 6).toInt = (qI S9_45 16 6).toInt := congrArg Int32.toInt ((q55_.2).kI (a := 16) (j := 6) ((y54_.2.1 _ finC_27).2.1) (by decide) (by decide))
        exact trivial
set_option maxRecDepth 100000 in
theorem sfX1_store {S : MS} {x1 : Int32} {x2 : Int32} (hw : wfC S)  : wX1_store S x1 x2 (fun _ => True) := by
  have f : cfr [103] [(41, 5), (41, 6)] S S := cfr.rf
  unfold wX1_store
  refine ⟨?_, ?_⟩
  · exact dd_X6_takes
  intro a4_0 ea4_0 
  have ga4_0 := congrArg Int32.toInt ea4_0
  refine ⟨_, frX1_take hw (sfX1_take hw ), ?_⟩
  intro r6_1 S7_1 q1_ y2_ y3_
  have f := f.tr (q1_.2.mo (by decide) (by decide))
  refine ⟨?_, ?_⟩
  · exact dd_X6_localWidth
  intro a12_2 ea12_2 
  have ga12_2 := congrArg Int32.toInt ea12_2
  intro a14_3 ea14_3 
  have ga14_3 := congrArg Int32.toInt ea14_3
  refine ⟨fun c4_ => ?_, fun c4_ => ?_⟩
  · unfold w_X1_store_J43
    intro y4_
    refine ⟨fun c5_ => ?_, fun c5_ => ?_⟩
    · unfold w_X1_store_J67
      intro y5_
      refine ⟨fun c6_ => ?_, fun c6_ => ?_⟩
      · refine ⟨?_, ?_⟩
        · exact dd_X1_isReference
        intro a31_7 ea31_7 
        have ga31_7 := congrArg Int32.toInt ea31_7
        refine ⟨fun c8_ => ?_, fun c8_ => ?_⟩
        · refine ⟨_, frX1_setPlace y5_ (sfX1_setPlace y5_ ), ?_⟩
          intro S34_9 q6_ y7_ y8_
          have f := f.tr (q6_.2.mo (by decide) (by decide))
          exact trivial
        · refine ⟨_, frX1_setPlace y5_ (sfX1_setPlace y5_ ), ?_⟩
          intro S37_10 q9_ y10_ y11_
          have f := f.tr (q9_.2.mo (by decide) (by decide))
          exact trivial
      · refine ⟨?_, ?_⟩
        · exact dd_X1_lowerType
        intro a19_11 ea19_11 
        have ga19_11 := congrArg Int32.toInt ea19_11
        refine ⟨_, frX1_setPlace y5_ (sfX1_setPlace y5_ ), ?_⟩
        intro S21_12 q12_ y13_ y14_
        have f := f.tr (q12_.2.mo (by decide) (by decide))
        refine ⟨fun c13_ => ?_, fun c13_ => ?_⟩
        · refine ⟨_, frX1_setPlace y13_ (sfX1_setPlace y13_ ), ?_⟩
          intro S26_14 q15_ y16_ y17_
          have f := f.tr (q15_.2.mo (by decide) (by decide))
          exact trivial
        · exact trivial
    · refine ⟨?_, ?_⟩
      · exact dd_X1_placeAt
      intro a43_15 ea43_15 
      have ga43_15 := congrArg Int32.toInt ea43_15
      refine ⟨fun c16_ => ?_, fun c16_ => ?_⟩
      · refine ⟨_, frX1_setPlace y4_ (sfX1_setPlace y4_ ), ?_⟩
        intro S46_17 q18_ y19_ y20_
        have f := f.tr (q18_.2.mo (by decide) (by decide))
        unfold w_X1_store_J67
        intro y21_
        refine ⟨fun c18_ => ?_, fun c18_ => ?_⟩
        · refine ⟨?_, ?_⟩
          · exact dd_X1_isReference
          intro a31_19 ea31_19 
          have ga31_19 := congrArg Int32.toInt ea31_19
          refine ⟨fun c20_ => ?_, fun c20_ => ?_⟩
          · refine ⟨_, frX1_setPlace y21_ (sfX1_setPlace y21_ ), ?_⟩
            intro S34_21 q22_ y23_ y24_
            have f := f.tr (q22_.2.mo (by decide) (by decide))
            exact trivial
          · refine ⟨_, frX1_setPlace y21_ (sfX1_setPlace y21_ ), ?_⟩
            intro S37_22 q25_ y26_ y27_
            have f := f.tr (q25_.2.mo (by decide) (by decide))
            exact trivial
        · refine ⟨?_, ?_⟩
          · exact dd_X1_lowerType
          intro a19_23 ea19_23 
          have ga19_23 := congrArg Int32.toInt ea19_23
          refine ⟨_, frX1_setPlace y21_ (sfX1_setPlace y21_ ), ?_⟩
          intro S21_24 q28_ y29_ y30_
          have f := f.tr (q28_.2.mo (by decide) (by decide))
          refine ⟨fun c25_ => ?_, fun c25_ => ?_⟩
          · refine ⟨_, frX1_setPlace y29_ (sfX1_setPlace y29_ ), ?_⟩
            intro S26_26 q31_ y32_ y33_
            have f := f.tr (q31_.2.mo (by decide) (by decide))
            exact trivial
          · exact trivial
      · unfold w_X1_store_J67
        intro y34_
        refine ⟨fun c27_ => ?_, fun c27_ => ?_⟩
        · refine ⟨?_, ?_⟩
          · exact dd_X1_isReference
          intro a31_28 ea31_28 
          have ga31_28 := congrArg Int32.toInt ea31_28
          refine ⟨fun c29_ => ?_, fun c29_ => ?_⟩
          · refine ⟨_, frX1_setPlace y34_ (sfX1_setPlace y34_ ), ?_⟩
            intro S34_30 q35_ y36_ y37_
            have f := f.tr (q35_.2.mo (by decide) (by decide))
            exact trivial
          · refine ⟨_, frX1_setPlace y34_ (sfX1_setPlace y34_ ), ?_⟩
            intro S37_31 q38_ y39_ y40_
            have f := f.tr (q38_.2.mo (by decide) (by decide))
            exact trivial
        · refine ⟨?_, ?_⟩
          · exact dd_X1_lowerType
          intro a19_32 ea19_32 
          have ga19_32 := congrArg Int32.toInt ea19_32
          refine ⟨_, frX1_setPlace y34_ (sfX1_setPlace y34_ ), ?_⟩
          intro S21_33 q41_ y42_ y43_
          have f := f.tr (q41_.2.mo (by decide) (by decide))
          refine ⟨fun c34_ => ?_, fun c34_ => ?_⟩
          · refine ⟨_, frX1_setPlace y42_ (sfX1_setPlace y42_ ), ?_⟩
            intro S26_35 q44_ y45_ y46_
            have f := f.tr (q44_.2.mo (by decide) (by decide))
            exact trivial
          · exact trivial
  · refine ⟨?_, ?_⟩
    · exact dd_X1_placeAt
    intro a53_36 ea53_36 
    have ga53_36 := congrArg Int32.toInt ea53_36
    refine ⟨fun c37_ => ?_, fun c37_ => ?_⟩
    · refine ⟨_, frX1_setPlace y2_ (sfX1_setPlace y2_ ), ?_⟩
      intro S57_38 q47_ y48_ y49_
      have f := f.tr (q47_.2.mo (by decide) (by decide))
      unfold w_X1_store_J43
      intro y50_
      refine ⟨fun c39_ => ?_, fun c39_ => ?_⟩
      · unfold w_X1_store_J67
        intro y51_
        refine ⟨fun c40_ => ?_, fun c40_ => ?_⟩
        · refine ⟨?_, ?_⟩
          · exact dd_X1_isReference
          intro a31_41 ea31_41 
          have ga31_41 := congrArg Int32.toInt ea31_41
          refine ⟨fun c42_ => ?_, fun c42_ => ?_⟩
          · refine ⟨_, frX1_setPlace y51_ (sfX1_setPlace y51_ ), ?_⟩
            intro S34_43 q52_ y53_ y54_
            have f := f.tr (q52_.2.mo (by decide) (by decide))
            exact trivial
          · refine ⟨_, frX1_setPlace y51_ (sfX1_setPlace y51_ ), ?_⟩
            intro S37_44 q55_ y56_ y57_
            have f := f.tr (q55_.2.mo (by decide) (by decide))
            exact trivial
        · refine ⟨?_, ?_⟩
          · exact dd_X1_lowerType
          intro a19_45 ea19_45 
          have ga19_45 := congrArg Int32.toInt ea19_45
          refine ⟨_, frX1_setPlace y51_ (sfX1_setPlace y51_ ), ?_⟩
          intro S21_46 q58_ y59_ y60_
          have f := f.tr (q58_.2.mo (by decide) (by decide))
          refine ⟨fun c47_ => ?_, fun c47_ => ?_⟩
          · refine ⟨_, frX1_setPlace y59_ (sfX1_setPlace y59_ ), ?_⟩
            intro S26_48 q61_ y62_ y63_
            have f := f.tr (q61_.2.mo (by decide) (by decide))
            exact trivial
          · exact trivial
      · refine ⟨?_, ?_⟩
        · exact dd_X1_placeAt
        intro a43_49 ea43_49 
        have ga43_49 := congrArg Int32.toInt ea43_49
        refine ⟨fun c50_ => ?_, fun c50_ => ?_⟩
        · refine ⟨_, frX1_setPlace y50_ (sfX1_setPlace y50_ ), ?_⟩
          intro S46_51 q64_ y65_ y66_
          have f := f.tr (q64_.2.mo (by decide) (by decide))
          unfold w_X1_store_J67
          intro y67_
          refine ⟨fun c52_ => ?_, fun c52_ => ?_⟩
          · refine ⟨?_, ?_⟩
            · exact dd_X1_isReference
            intro a31_53 ea31_53 
            have ga31_53 := congrArg Int32.toInt ea31_53
            refine ⟨fun c54_ => ?_, fun c54_ => ?_⟩
            · refine ⟨_, frX1_setPlace y67_ (sfX1_setPlace y67_ ), ?_⟩
              intro S34_55 q68_ y69_ y70_
              have f := f.tr (q68_.2.mo (by decide) (by decide))
              exact trivial
            · refine ⟨_, frX1_setPlace y67_ (sfX1_setPlace y67_ ), ?_⟩
              intro S37_56 q71_ y72_ y73_
              have f := f.tr (q71_.2.mo (by decide) (by decide))
              exact trivial
          · refine ⟨?_, ?_⟩
            · exact dd_X1_lowerType
            intro a19_57 ea19_57 
            have ga19_57 := congrArg Int32.toInt ea19_57
            refine ⟨_, frX1_setPlace y67_ (sfX1_setPlace y67_ ), ?_⟩
            intro S21_58 q74_ y75_ y76_
            have f := f.tr (q74_.2.mo (by decide) (by decide))
            refine ⟨fun c59_ => ?_, fun c59_ => ?_⟩
            · refine ⟨_, frX1_setPlace y75_ (sfX1_setPlace y75_ ), ?_⟩
              intro S26_60 q77_ y78_ y79_
              have f := f.tr (q77_.2.mo (by decide) (by decide))
              exact trivial
            · exact trivial
        · unfold w_X1_store_J67
          intro y80_
          refine ⟨fun c61_ => ?_, fun c61_ => ?_⟩
          · refine ⟨?_, ?_⟩
            · exact dd_X1_isReference
            intro a31_62 ea31_62 
            have ga31_62 := congrArg Int32.toInt ea31_62
            refine ⟨fun c63_ => ?_, fun c63_ => ?_⟩
            · refine ⟨_, frX1_setPlace y80_ (sfX1_setPlace y80_ ), ?_⟩
              intro S34_64 q81_ y82_ y83_
              have f := f.tr (q81_.2.mo (by decide) (by decide))
              exact trivial
            · refine ⟨_, frX1_setPlace y80_ (sfX1_setPlace y80_ ), ?_⟩
              intro S37_65 q84_ y85_ y86_
              have f := f.tr (q84_.2.mo (by decide) (by decide))
              exact trivial
          · refine ⟨?_, ?_⟩
            · exact dd_X1_lowerType
            intro a19_66 ea19_66 
            have ga19_66 := congrArg Int32.toInt ea19_66
            refine ⟨_, frX1_setPlace y80_ (sfX1_setPlace y80_ ), ?_⟩
            intro S21_67 q87_ y88_ y89_
            have f := f.tr (q87_.2.mo (by decide) (by decide))
            refine ⟨fun c68_ => ?_, fun c68_ => ?_⟩
            · refine ⟨_, frX1_setPlace y88_ (sfX1_setPlace y88_ ), ?_⟩
              intro S26_69 q90_ y91_ y92_
              have f := f.tr (q90_.2.mo (by decide) (by decide))
              exact trivial
            · exact trivial
    · unfold w_X1_store_J43
      intro y93_
      refine ⟨fun c70_ => ?_, fun c70_ => ?_⟩
      · unfold w_X1_store_J67
        intro y94_
        refine ⟨fun c71_ => ?_, fun c71_ => ?_⟩
        · refine ⟨?_, ?_⟩
          · exact dd_X1_isReference
          intro a31_72 ea31_72 
          have ga31_72 := congrArg Int32.toInt ea31_72
          refine ⟨fun c73_ => ?_, fun c73_ => ?_⟩
          · refine ⟨_, frX1_setPlace y94_ (sfX1_setPlace y94_ ), ?_⟩
            intro S34_74 q95_ y96_ y97_
            have f := f.tr (q95_.2.mo (by decide) (by decide))
            exact trivial
          · refine ⟨_, frX1_setPlace y94_ (sfX1_setPlace y94_ ), ?_⟩
            intro S37_75 q98_ y99_ y100_
            have f := f.tr (q98_.2.mo (by decide) (by decide))
            exact trivial
        · refine ⟨?_, ?_⟩
          · exact dd_X1_lowerType
          intro a19_76 ea19_76 
          have ga19_76 := congrArg Int32.toInt ea19_76
          refine ⟨_, frX1_setPlace y94_ (sfX1_setPlace y94_ ), ?_⟩
          intro S21_77 q101_ y102_ y103_
          have f := f.tr (q101_.2.mo (by decide) (by decide))
          refine ⟨fun c78_ => ?_, fun c78_ => ?_⟩
          · refine ⟨_, frX1_setPlace y102_ (sfX1_setPlace y102_ ), ?_⟩
            intro S26_79 q104_ y105_ y106_
            have f := f.tr (q104_.2.mo (by decide) (by decide))
            exact trivial
          · exact trivial
      · refine ⟨?_, ?_⟩
        · exact dd_X1_placeAt
        intro a43_80 ea43_80 
        have ga43_80 := congrArg Int32.toInt ea43_80
        refine ⟨fun c81_ => ?_, fun c81_ => ?_⟩
        · refine ⟨_, frX1_setPlace y93_ (sfX1_setPlace y93_ ), ?_⟩
          intro S46_82 q107_ y108_ y109_
          have f := f.tr (q107_.2.mo (by decide) (by decide))
          unfold w_X1_store_J67
          intro y110_
          refine ⟨fun c83_ => ?_, fun c83_ => ?_⟩
          · refine ⟨?_, ?_⟩
            · exact dd_X1_isReference
            intro a31_84 ea31_84 
            have ga31_84 := congrArg Int32.toInt ea31_84
            refine ⟨fun c85_ => ?_, fun c85_ => ?_⟩
            · refine ⟨_, frX1_setPlace y110_ (sfX1_setPlace y110_ ), ?_⟩
              intro S34_86 q111_ y112_ y113_
              have f := f.tr (q111_.2.mo (by decide) (by decide))
              exact trivial
            · refine ⟨_, frX1_setPlace y110_ (sfX1_setPlace y110_ ), ?_⟩
              intro S37_87 q114_ y115_ y116_
              have f := f.tr (q114_.2.mo (by decide) (by decide))
              exact trivial
          · refine ⟨?_, ?_⟩
            · exact dd_X1_lowerType
            intro a19_88 ea19_88 
            have ga19_88 := congrArg Int32.toInt ea19_88
            refine ⟨_, frX1_setPlace y110_ (sfX1_setPlace y110_ ), ?_⟩
            intro S21_89 q117_ y118_ y119_
            have f := f.tr (q117_.2.mo (by decide) (by decide))
            refine ⟨fun c90_ => ?_, fun c90_ => ?_⟩
            · refine ⟨_, frX1_setPlace y118_ (sfX1_setPlace y118_ ), ?_⟩
              intro S26_91 q120_ y121_ y122_
              have f := f.tr (q120_.2.mo (by decide) (by decide))
              exact trivial
            · exact trivial
        · unfold w_X1_store_J67
          intro y123_
          refine ⟨fun c92_ => ?_, fun c92_ => ?_⟩
          · refine ⟨?_, ?_⟩
            · exact dd_X1_isReference
            intro a31_93 ea31_93 
            have ga31_93 := congrArg Int32.toInt ea31_93
            refine ⟨fun c94_ => ?_, fun c94_ => ?_⟩
            · refine ⟨_, frX1_setPlace y123_ (sfX1_setPlace y123_ ), ?_⟩
              intro S34_95 q124_ y125_ y126_
              have f := f.tr (q124_.2.mo (by decide) (by decide))
              exact trivial
            · refine ⟨_, frX1_setPlace y123_ (sfX1_setPlace y123_ ), ?_⟩
              intro S37_96 q127_ y128_ y129_
              have f := f.tr (q127_.2.mo (by decide) (by decide))
              exact trivial
          · refine ⟨?_, ?_⟩
            · exact dd_X1_lowerType
            intro a19_97 ea19_97 
            have ga19_97 := congrArg Int32.toInt ea19_97
            refine ⟨_, frX1_setPlace y123_ (sfX1_setPlace y123_ ), ?_⟩
            intro S21_98 q130_ y131_ y132_
            have f := f.tr (q130_.2.mo (by decide) (by decide))
            refine ⟨fun c99_ => ?_, fun c99_ => ?_⟩
            · refine ⟨_, frX1_setPlace y131_ (sfX1_setPlace y131_ ), ?_⟩
              intro S26_100 q133_ y134_ y135_
              have f := f.tr (q133_.2.mo (by decide) (by decide))
              exact trivial
            · exact trivial
set_option maxRecDepth 100000 in
theorem sfX5_elementAt {S : MS} {x1 : Int32} {x2 : Int32} (hw : wfC S)  : wX5_elementAt S x1 x2 (fun _ _ => True) := by
  have f : cfr [] [(45, 19)] S S := cfr.rf
  unfold wX5_elementAt
  refine ⟨fun c0_ => ?_, fun c0_ => ?_⟩
  · unfold w_X5_elementAt_J13
    intro y1_
    exact trivial
  · refine ⟨?_, ?_⟩
    · exact dd_X5_lengthOf
    refine ⟨fun c1_ => ?_, fun c1_ => ?_⟩
    · refine ⟨?_, ?_⟩
      · exact dd_X5_arrayStart
      refine ⟨_, frX5_heapAt hw (sfX5_heapAt hw ), ?_⟩
      intro r11_2 S12_2 q2_ y3_ y4_
      have f := f.tr (q2_.2.mo (by decide) (by decide))
      exact trivial
    · unfold w_X5_elementAt_J13
      intro y5_
      exact trivial
set_option maxRecDepth 100000 in
theorem sfX5_isJumpTaken {S : MS} {x1 : Int32} (hw : wfC S)  : wX5_isJumpTaken S x1 (fun _ _ => True) := by
  have f : cfr [] [(45, 14), (45, 19)] S S := cfr.rf
  unfold wX5_isJumpTaken
  refine ⟨fun c0_ => ?_, fun c0_ => ?_⟩
  · exact trivial
  · refine ⟨_, frX5_pop hw (sfX5_pop hw ), ?_⟩
    intro r3_1 S4_1 q1_ y2_ y3_
    have f := f.tr (q1_.2.mo (by decide) (by decide))
    refine ⟨fun c2_ => ?_, fun c2_ => ?_⟩
    · refine ⟨_, frX5_pop y2_ (sfX5_pop y2_ ), ?_⟩
      intro r7_3 S8_3 q4_ y5_ y6_
      have f := f.tr (q4_.2.mo (by decide) (by decide))
      refine ⟨fun c4_ => ?_, fun c4_ => ?_⟩
      · exact trivial
      · exact trivial
    · refine ⟨fun c5_ => ?_, fun c5_ => ?_⟩
      · refine ⟨_, frX5_pop y2_ (sfX5_pop y2_ ), ?_⟩
        intro r13_6 S14_6 q7_ y8_ y9_
        have f := f.tr (q7_.2.mo (by decide) (by decide))
        refine ⟨fun c7_ => ?_, fun c7_ => ?_⟩
        · exact trivial
        · exact trivial
      · refine ⟨fun c8_ => ?_, fun c8_ => ?_⟩
        · refine ⟨fun c9_ => ?_, fun c9_ => ?_⟩
          · exact trivial
          · exact trivial
        · refine ⟨fun c10_ => ?_, fun c10_ => ?_⟩
          · refine ⟨fun c11_ => ?_, fun c11_ => ?_⟩
            · exact trivial
            · exact trivial
          · refine ⟨fun c12_ => ?_, fun c12_ => ?_⟩
            · refine ⟨_, frX5_pop y2_ (sfX5_pop y2_ ), ?_⟩
              intro r24_13 S25_13 q10_ y11_ y12_
              have f := f.tr (q10_.2.mo (by decide) (by decide))
              refine ⟨?_, ?_⟩
              · exact dd_X6_isTaken
              exact trivial
            · refine ⟨?_, ?_⟩
              · exact dd_X6_isTaken
              exact trivial
