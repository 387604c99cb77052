set_option maxRecDepth 100000 in
theorem sg_X9_goThrough_L10 {B : Nat × Nat} : ∀ (n : Nat) {U10 : MS} {v10_1 : Int32} {v10_2 : Int32} {v10_3 : Int32} {v10_4 : Int32} {v10_5 : Int32}, ShC B U10 → 0 ≤ v10_5.toInt → 1 ≤ v10_1.toInt → v10_1.toInt ≤ 11 → 2147483648 - v10_5.toInt < n → w_X9_goThrough_L10 (fun _ u => ShC B u ∧ (True)) n U10 v10_1 v10_2 v10_3 v10_4 v10_5 := by
  intro n
  induction n with
  | zero => intro U10 v10_1 v10_2 v10_3 v10_4 v10_5 g j0_ j1_ j2_ hm_; exfalso; have := rgI v10_1; have := rgI v10_2; have := rgI v10_3; have := rgI v10_4; have := rgI v10_5; omega
  | succ n ih10 =>
    intro U10 v10_1 v10_2 v10_3 v10_4 v10_5 g j0_ j1_ j2_ hm_
    unfold w_X9_goThrough_L10
    intro y1_ y2_ y3_
    refine ⟨fun c0_ => ?_, fun c0_ => ?_⟩
    · exact ⟨g, trivial⟩
    · refine ⟨fun c1_ => ?_, fun c1_ => ?_⟩
      · exact ⟨g, trivial⟩
      · refine ⟨fun c2_ => ?_, fun c2_ => ?_⟩
        · unfold w_X9_goThrough_J49
          intro y4_ y5_ y6_
          refine ⟨fun c3_ => ?_, fun c3_ => ?_⟩
          · unfold w_X9_goThrough_J68
            intro y7_ y8_
            refine ⟨_, frX9_isDone y7_ (sgX9_isDone y7_ g (by have s5_ := (g.row (y7_.ref (y7_.ptr ptrC_39) (y7_.2.1 _ finC_31).2.1)).2; have s6_ := g.smk; unfold SmK at s6_; have n1_ := rgI v10_4; have n2_ := rgI v10_5; have n3_ := rgI v10_1; have n4_ := rgI (qI U10 (qO U10 66 0) 2); have n5_ := rgI v10_3; omega)), ?_⟩
            intro r5_4 S6_4 q9_ y10_ y11_
            have o7_ : qO S6_4 66 0 = qO U10 66 0 := qO_eq (q9_.2.kO (y7_.2.1 _ finC_31).2.1 (by decide) (by decide))
            have t8_ : (qI S6_4 (qO S6_4 66 0) 4).toInt = (qI U10 (qO U10 66 0) 4).toInt := by rw [o7_]; exact congrArg Int32.toInt (q9_.2.kI (j := 4) (y7_.ref (y7_.ptr ptrC_39) (y7_.2.1 _ finC_31).2.1) (by decide) (by decide))
            have t9_ : (qN S6_4 (qO S6_4 (qO S6_4 66 0) 1) : Int) = (qN U10 (qO U10 (qO U10 66 0) 1) : Int) := by rw [o7_]; exact q9_.2.kL (j := 1) y7_ (y7_.ref (y7_.ptr ptrC_39) (y7_.2.1 _ finC_31).2.1) (g.row (y7_.ref (y7_.ptr ptrC_39) (y7_.2.1 _ finC_31).2.1)).1.2.1 (by decide) (by decide)
            have t10_ : (qN S6_4 (qO S6_4 (qO S6_4 66 0) 8) : Int) = (qN U10 (qO U10 (qO U10 66 0) 8) : Int) := by rw [o7_]; exact q9_.2.kL (j := 8) y7_ (y7_.ref (y7_.ptr ptrC_39) (y7_.2.1 _ finC_31).2.1) (g.row (y7_.ref (y7_.ptr ptrC_39) (y7_.2.1 _ finC_31).2.1)).1.2.2.2.2.2.2 (by decide) (by decide)
            have t11_ : (qN S6_4 (qO S6_4 (qO S6_4 66 0) 7) : Int) = (qN U10 (qO U10 (qO U10 66 0) 7) : Int) := by rw [o7_]; exact q9_.2.kL (j := 7) y7_ (y7_.ref (y7_.ptr ptrC_39) (y7_.2.1 _ finC_31).2.1) (g.row (y7_.ref (y7_.ptr ptrC_39) (y7_.2.1 _ finC_31).2.1)).1.2.2.2.2.2.1 (by decide) (by decide)
            have t12_ : (qN S6_4 (qO S6_4 (qO S6_4 66 0) 0) : Int) = (qN U10 (qO U10 (qO U10 66 0) 0) : Int) := by rw [o7_]; exact q9_.2.kL (j := 0) y7_ (y7_.ref (y7_.ptr ptrC_39) (y7_.2.1 _ finC_31).2.1) (g.row (y7_.ref (y7_.ptr ptrC_39) (y7_.2.1 _ finC_31).2.1)).1.1 (by decide) (by decide)
            have t13_ : (qN S6_4 (qO S6_4 (qO S6_4 66 0) 6) : Int) = (qN U10 (qO U10 (qO U10 66 0) 6) : Int) := by rw [o7_]; exact q9_.2.kL (j := 6) y7_ (y7_.ref (y7_.ptr ptrC_39) (y7_.2.1 _ finC_31).2.1) (g.row (y7_.ref (y7_.ptr ptrC_39) (y7_.2.1 _ finC_31).2.1)).1.2.2.2.2.1 (by decide) (by decide)
            have t14_ : (qN S6_4 (qO S6_4 (qO S6_4 66 0) 3) : Int) = (qN U10 (qO U10 (qO U10 66 0) 3) : Int) := by rw [o7_]; exact q9_.2.kL (j := 3) y7_ (y7_.ref (y7_.ptr ptrC_39) (y7_.2.1 _ finC_31).2.1) (g.row (y7_.ref (y7_.ptr ptrC_39) (y7_.2.1 _ finC_31).2.1)).1.2.2.1 (by decide) (by decide)
            have t15_ : (qN S6_4 (qO S6_4 (qO S6_4 66 0) 5) : Int) = (qN U10 (qO U10 (qO U10 66 0) 5) : Int) := by rw [o7_]; exact q9_.2.kL (j := 5) y7_ (y7_.ref (y7_.ptr ptrC_39) (y7_.2.1 _ finC_31).2.1) (g.row (y7_.ref (y7_.ptr ptrC_39) (y7_.2.1 _ finC_31).2.1)).1.2.2.2.1 (by decide) (by decide)
            have g : ShC B S6_4 := q9_.1.1
            refine ⟨fun c16_ => ?_, fun c16_ => ?_⟩
            · intro a10_17 ea10_17 
              have ga10_17 := congrArg Int32.toInt ea10_17
              unfold w_X9_goThrough_J98
              intro y12_ y13_ y14_
              intro a8_18 ea8_18 
              have ga8_18 := congrArg Int32.toInt ea8_18
              refine ih10 g ?_ ?_ ?_ ?_
              · have s19_ := (g.row (y12_.ref (y12_.ptr ptrC_39) (y12_.2.1 _ finC_31).2.1)).2
                have s20_ := g.smk
                unfold SmK at s20_
                have n1_ := rgI a8_18
                have n2_ := rgI v10_5
                have n3_ := rgI v10_1
                have n4_ := rgI (qI U10 (qO U10 66 0) 2)
                have n5_ := rgI v10_4
                have n6_ := rgI v10_3
                have n7_ := rgI r5_4
                have n8_ := rgI a10_17
                have n10_ := lo_1k
                have n10_ := t_addD (a := v10_4) (b := Int32.ofInt 1)
                have n11_ := rgI (v10_4 + Int32.ofInt 1)
                have n12_ := t_addD (a := v10_5) (b := Int32.ofInt 1)
                have n13_ := rgI (v10_5 + Int32.ofInt 1)
                omega
              · have s21_ := (g.row (y12_.ref (y12_.ptr ptrC_39) (y12_.2.1 _ finC_31).2.1)).2
                have s22_ := g.smk
                unfold SmK at s22_
                have n1_ := rgI v10_1
                have n2_ := rgI v10_5
                have n3_ := rgI (qI U10 (qO U10 66 0) 2)
                have n4_ := rgI v10_4
                have n5_ := rgI v10_3
                have n6_ := rgI r5_4
                have n7_ := rgI a10_17
                have n9_ := lo_1k
                have n9_ := t_addD (a := v10_4) (b := Int32.ofInt 1)
                have n10_ := rgI (v10_4 + Int32.ofInt 1)
                have n11_ := rgI a8_18
                have n12_ := t_addD (a := v10_5) (b := Int32.ofInt 1)
                have n13_ := rgI (v10_5 + Int32.ofInt 1)
                omega
              · have s23_ := (g.row (y12_.ref (y12_.ptr ptrC_39) (y12_.2.1 _ finC_31).2.1)).2
                have s24_ := g.smk
                unfold SmK at s24_
                have n1_ := rgI v10_1
                have n2_ := rgI v10_5
                have n3_ := rgI (qI U10 (qO U10 66 0) 2)
                have n4_ := rgI v10_4
                have n5_ := rgI v10_3
                have n6_ := rgI r5_4
                have n7_ := rgI a10_17
                have n9_ := lo_1k
                have n9_ := t_addD (a := v10_4) (b := Int32.ofInt 1)
                have n10_ := rgI (v10_4 + Int32.ofInt 1)
                have n11_ := rgI a8_18
                have n12_ := t_addD (a := v10_5) (b := Int32.ofInt 1)
                have n13_ := rgI (v10_5 + Int32.ofInt 1)
                omega
              · have s25_ := (g.row (y12_.ref (y12_.ptr ptrC_39) (y12_.2.1 _ finC_31).2.1)).2
                have s26_ := g.smk
                unfold SmK at s26_
                have n1_ := rgI a8_18
                have n2_ := rgI v10_5
                have n3_ := rgI v10_1
                have n4_ := rgI (qI U10 (qO U10 66 0) 2)
                have n5_ := rgI v10_4
                have n6_ := rgI v10_3
                have n7_ := rgI r5_4
                have n8_ := rgI a10_17
                have n10_ := lo_1k
                have n10_ := t_addD (a := v10_4) (b := Int32.ofInt 1)
                have n11_ := rgI (v10_4 + Int32.ofInt 1)
                have n12_ := t_addD (a := v10_5) (b := Int32.ofInt 1)
                have n13_ := rgI (v10_5 + Int32.ofInt 1)
                omega
            · refine ⟨?_, ?_⟩
              · have s27_ := (g.row (y10_.ref (y10_.ptr ptrC_39) (y10_.2.1 _ finC_31).2.1)).2
                have s28_ := g.smk
                unfold SmK at s28_
                have n1_ := rgI v10_1
                have n2_ := rgI v10_5
                have n3_ := rgI (qI U10 (qO U10 66 0) 2)
                have n4_ := rgI v10_4
                have n5_ := rgI v10_3
                have n6_ := rgI r5_4
                omega
              refine ⟨?_, ?_⟩
              · have s29_ := (g.row (y10_.ref (y10_.ptr ptrC_39) (y10_.2.1 _ finC_31).2.1)).2
                have s30_ := g.smk
                unfold SmK at s30_
                have n1_ := rgI v10_1
                have n2_ := rgI v10_5
                have n3_ := rgI (qI U10 (qO U10 66 0) 2)
                have n4_ := rgI v10_4
                have n5_ := rgI v10_3
                have n6_ := rgI r5_4
                omega
              intro S15_31 eS15_31 y15_ y16_
              have f32_ : cfr [228] [] S6_4 S15_31 := by rw [eS15_31]; exact cfr.aI y15_ (by decide)
              have o33_ : qO S15_31 66 0 = qO S6_4 66 0 := qO_eq (f32_.kO (y10_.2.1 _ finC_31).2.1 (by decide) (by decide))
              have t34_ : (qI S15_31 (qO S15_31 66 0) 4).toInt = (qI S6_4 (qO S6_4 66 0) 4).toInt := by rw [o33_]; exact congrArg Int32.toInt (f32_.kI (j := 4) (y10_.ref (y10_.ptr ptrC_39) (y10_.2.1 _ finC_31).2.1) (by decide) (by decide))
              have t35_ : (qI S15_31 (qO S15_31 66 0) 9).toInt = (qI S6_4 (qO S6_4 66 0) 9).toInt := by rw [o33_]; exact congrArg Int32.toInt (f32_.kI (j := 9) (y10_.ref (y10_.ptr ptrC_39) (y10_.2.1 _ finC_31).2.1) (by decide) (by decide))
              have t36_ : (qI S15_31 (qO S15_31 66 0) 2).toInt = (qI S6_4 (qO S6_4 66 0) 2).toInt := by rw [o33_]; exact congrArg Int32.toInt (f32_.kI (j := 2) (y10_.ref (y10_.ptr ptrC_39) (y10_.2.1 _ finC_31).2.1) (by decide) (by decide))
              have t37_ : (qN S15_31 (qO S15_31 (qO S15_31 66 0) 1) : Int) = (qN S6_4 (qO S6_4 (qO S6_4 66 0) 1) : Int) := by rw [o33_]; exact f32_.kL (j := 1) y10_ (y10_.ref (y10_.ptr ptrC_39) (y10_.2.1 _ finC_31).2.1) (g.row (y10_.ref (y10_.ptr ptrC_39) (y10_.2.1 _ finC_31).2.1)).1.2.1 (by decide) (by decide)
              have t38_ : (qN S15_31 (qO S15_31 (qO S15_31 66 0) 8) : Int) = (qN S6_4 (qO S6_4 (qO S6_4 66 0) 8) : Int) := by rw [o33_]; exact f32_.kL (j := 8) y10_ (y10_.ref (y10_.ptr ptrC_39) (y10_.2.1 _ finC_31).2.1) (g.row (y10_.ref (y10_.ptr ptrC_39) (y10_.2.1 _ finC_31).2.1)).1.2.2.2.2.2.2 (by decide) (by decide)
              have t39_ : (qN S15_31 (qO S15_31 (qO S15_31 66 0) 7) : Int) = (qN S6_4 (qO S6_4 (qO S6_4 66 0) 7) : Int) := by rw [o33_]; exact f32_.kL (j := 7) y10_ (y10_.ref (y10_.ptr ptrC_39) (y10_.2.1 _ finC_31).2.1) (g.row (y10_.ref (y10_.ptr ptrC_39) (y10_.2.1 _ finC_31).2.1)).1.2.2.2.2.2.1 (by decide) (by decide)
              have t40_ : (qN S15_31 (qO S15_31 (qO S15_31 66 0) 0) : Int) = (qN S6_4 (qO S6_4 (qO S6_4 66 0) 0) : Int) := by rw [o33_]; exact f32_.kL (j := 0) y10_ (y10_.ref (y10_.ptr ptrC_39) (y10_.2.1 _ finC_31).2.1) (g.row (y10_.ref (y10_.ptr ptrC_39) (y10_.2.1 _ finC_31).2.1)).1.1 (by decide) (by decide)
              have t41_ : (qN S15_31 (qO S15_31 (qO S15_31 66 0) 6) : Int) = (qN S6_4 (qO S6_4 (qO S6_4 66 0) 6) : Int) := by rw [o33_]; exact f32_.kL (j := 6) y10_ (y10_.ref (y10_.ptr ptrC_39) (y10_.2.1 _ finC_31).2.1) (g.row (y10_.ref (y10_.ptr ptrC_39) (y10_.2.1 _ finC_31).2.1)).1.2.2.2.2.1 (by decide) (by decide)
              have t42_ : (qN S15_31 (qO S15_31 (qO S15_31 66 0) 3) : Int) = (qN S6_4 (qO S6_4 (qO S6_4 66 0) 3) : Int) := by rw [o33_]; exact f32_.kL (j := 3) y10_ (y10_.ref (y10_.ptr ptrC_39) (y10_.2.1 _ finC_31).2.1) (g.row (y10_.ref (y10_.ptr ptrC_39) (y10_.2.1 _ finC_31).2.1)).1.2.2.1 (by decide) (by decide)
              have t43_ : (qN S15_31 (qO S15_31 (qO S15_31 66 0) 5) : Int) = (qN S6_4 (qO S6_4 (qO S6_4 66 0) 5) : Int) := by rw [o33_]; exact f32_.kL (j := 5) y10_ (y10_.ref (y10_.ptr ptrC_39) (y10_.2.1 _ finC_31).2.1) (g.row (y10_.ref (y10_.ptr ptrC_39) (y10_.2.1 _ finC_31).2.1)).1.2.2.2.1 (by decide) (by decide)
              have g : ShC B S15_31 := ShC.ws y10_ g f32_ (by rw [eS15_31]; rfl) (by rw [eS15_31]; rfl) (by rw [eS15_31]; rfl) rfl rfl
              unfold w_X9_goThrough_J98
              intro y17_ y18_ y19_
              intro a8_44 ea8_44 
              have ga8_44 := congrArg Int32.toInt ea8_44
              refine ih10 g ?_ ?_ ?_ ?_
              · have s45_ := (g.row (y17_.ref (y17_.ptr ptrC_39) (y17_.2.1 _ finC_31).2.1)).2
                have s46_ := g.smk
                unfold SmK at s46_
                have n1_ := rgI a8_44
                have n2_ := rgI v10_5
                have n3_ := rgI v10_1
                have n4_ := rgI (qI U10 (qO U10 66 0) 2)
                have n5_ := rgI v10_4
                have n6_ := rgI v10_3
                have n7_ := rgI r5_4
                have n9_ := lo_1k
                have n9_ := t_addD (a := v10_5) (b := Int32.ofInt 1)
                have n10_ := rgI (v10_5 + Int32.ofInt 1)
                omega
              · have s47_ := (g.row (y17_.ref (y17_.ptr ptrC_39) (y17_.2.1 _ finC_31).2.1)).2
                have s48_ := g.smk
                unfold SmK at s48_
                have n1_ := rgI v10_1
                have n2_ := rgI v10_5
                have n3_ := rgI (qI U10 (qO U10 66 0) 2)
                have n4_ := rgI v10_4
                have n5_ := rgI v10_3
                have n6_ := rgI r5_4
                have n7_ := rgI a8_44
                have n9_ := lo_1k
                have n9_ := t_addD (a := v10_5) (b := Int32.ofInt 1)
                have n10_ := rgI (v10_5 + Int32.ofInt 1)
                omega
              · have s49_ := (g.row (y17_.ref (y17_.ptr ptrC_39) (y17_.2.1 _ finC_31).2.1)).2
                have s50_ := g.smk
                unfold SmK at s50_
                have n1_ := rgI v10_1
                have n2_ := rgI v10_5
                have n3_ := rgI (qI U10 (qO U10 66 0) 2)
                have n4_ := rgI v10_4
                have n5_ := rgI v10_3
                have n6_ := rgI r5_4
                have n7_ := rgI a8_44
                have n9_ := lo_1k
                have n9_ := t_addD (a := v10_5) (b := Int32.ofInt 1)
                have n10_ := rgI (v10_5 + Int32.ofInt 1)
                omega
              · have s51_ := (g.row (y17_.ref (y17_.ptr ptrC_39) (y17_.2.1 _ finC_31).2.1)).2
                have s52_ := g.smk
                unfold SmK at s52_
                have n1_ := rgI a8_44
                have n2_ := rgI v10_5
                have n3_ := rgI v10_1
                have n4_ := rgI (qI U10 (qO U10 66 0) 2)
                have n5_ := rgI v10_4
                have n6_ := rgI v10_3
                have n7_ := rgI r5_4
                have n9_ := lo_1k
                have n9_ := t_addD (a := v10_5) (b := Int32.ofInt 1)
                have n10_ := rgI (v10_5 + Int32.ofInt 1)
                omega
          · refine ⟨fun c53_ => ?_, fun c53_ => ?_⟩
            · unfold w_X9_goThrough_J68
              intro y20_ y21_
              refine ⟨_, frX9_isDone y20_ (sgX9_isDone y20_ g (by have s55_ := (g.row (y20_.ref (y20_.ptr ptrC_39) (y20_.2.1 _ finC_31).2.1)).2; have s56_ := g.smk; unfold SmK at s56_; have n1_ := rgI v10_4; have n2_ := rgI v10_5; have n3_ := rgI v10_1; have n4_ := rgI (qI U10 (qO U10 66 0) 2); have n5_ := rgI v10_3; omega)), ?_⟩
              intro r5_54 S6_54 q22_ y23_ y24_
              have o57_ : qO S6_54 66 0 = qO U10 66 0 := qO_eq (q22_.2.kO (y20_.2.1 _ finC_31).2.1 (by decide) (by decide))
              have t58_ : (qI S6_54 (qO S6_54 66 0) 4).toInt = (qI U10 (qO U10 66 0) 4).toInt := by rw [o57_]; exact congrArg Int32.toInt (q22_.2.kI (j := 4) (y20_.ref (y20_.ptr ptrC_39) (y20_.2.1 _ finC_31).2.1) (by decide) (by decide))
              have t59_ : (qN S6_54 (qO S6_54 (qO S6_54 66 0) 1) : Int) = (qN U10 (qO U10 (qO U10 66 0) 1) : Int) := by rw [o57_]; exact q22_.2.kL (j := 1) y20_ (y20_.ref (y20_.ptr ptrC_39) (y20_.2.1 _ finC_31).2.1) (g.row (y20_.ref (y20_.ptr ptrC_39) (y20_.2.1 _ finC_31).2.1)).1.2.1 (by decide) (by decide)
              have t60_ : (qN S6_54 (qO S6_54 (qO S6_54 66 0) 8) : Int) = (qN U10 (qO U10 (qO U10 66 0) 8) : Int) := by rw [o57_]; exact q22_.2.kL (j := 8) y20_ (y20_.ref (y20_.ptr ptrC_39) (y20_.2.1 _ finC_31).2.1) (g.row (y20_.ref (y20_.ptr ptrC_39) (y20_.2.1 _ finC_31).2.1)).1.2.2.2.2.2.2 (by decide) (by decide)
              have t61_ : (qN S6_54 (qO S6_54 (qO S6_54 66 0) 7) : Int) = (qN U10 (qO U10 (qO U10 66 0) 7) : Int) := by rw [o57_]; exact q22_.2.kL (j := 7) y20_ (y20_.ref (y20_.ptr ptrC_39) (y20_.2.1 _ finC_31).2.1) (g.row (y20_.ref (y20_.ptr ptrC_39) (y20_.2.1 _ finC_31).2.1)).1.2.2.2.2.2.1 (by decide) (by decide)
              have t62_ : (qN S6_54 (qO S6_54 (qO S6_54 66 0) 0) : Int) = (qN U10 (qO U10 (qO U10 66 0) 0) : Int) := by rw [o57_]; exact q22_.2.kL (j := 0) y20_ (y20_.ref (y20_.ptr ptrC_39) (y20_.2.1 _ finC_31).2.1) (g.row (y20_.ref (y20_.ptr ptrC_39) (y20_.2.1 _ finC_31).2.1)).1.1 (by decide) (by decide)
              have t63_ : (qN S6_54 (qO S6_54 (qO S6_54 66 0) 6) : Int) = (qN U10 (qO U10 (qO U10 66 0) 6) : Int) := by rw [o57_]; exact q22_.2.kL (j := 6) y20_ (y20_.ref (y20_.ptr ptrC_39) (y20_.2.1 _ finC_31).2.1) (g.row (y20_.ref (y20_.ptr ptrC_39) (y20_.2.1 _ finC_31).2.1)).1.2.2.2.2.1 (by decide) (by decide)
              have t64_ : (qN S6_54 (qO S6_54 (qO S6_54 66 0) 3) : Int) = (qN U10 (qO U10 (qO U10 66 0) 3) : Int) := by rw [o57_]; exact q22_.2.kL (j := 3) y20_ (y20_.ref (y20_.ptr ptrC_39) (y20_.2.1 _ finC_31).2.1) (g.row (y20_.ref (y20_.ptr ptrC_39) (y20_.2.1 _ finC_31).2.1)).1.2.2.1 (by decide) (by decide)
              have t65_ : (qN S6_54 (qO S6_54 (qO S6_54 66 0) 5) : Int) = (qN U10 (qO U10 (qO U10 66 0) 5) : Int) := by rw [o57_]; exact q22_.2.kL (j := 5) y20_ (y20_.ref (y20_.ptr ptrC_39) (y20_.2.1 _ finC_31).2.1) (g.row (y20_.ref (y20_.ptr ptrC_39) (y20_.2.1 _ finC_31).2.1)).1.2.2.2.1 (by decide) (by decide)
              have g : ShC B S6_54 := q22_.1.1
              refine ⟨fun c66_ => ?_, fun c66_ => ?_⟩
              · intro a10_67 ea10_67 
                have ga10_67 := congrArg Int32.toInt ea10_67
                unfold w_X9_goThrough_J98
                intro y25_ y26_ y27_
                intro a8_68 ea8_68 
                have ga8_68 := congrArg Int32.toInt ea8_68
                refine ih10 g ?_ ?_ ?_ ?_
                · have s69_ := (g.row (y25_.ref (y25_.ptr ptrC_39) (y25_.2.1 _ finC_31).2.1)).2
                  have s70_ := g.smk
                  unfold SmK at s70_
                  have n1_ := rgI a8_68
                  have n2_ := rgI v10_5
                  have n3_ := rgI v10_1
                  have n4_ := rgI (qI U10 (qO U10 66 0) 2)
                  have n5_ := rgI v10_4
                  have n6_ := rgI v10_3
                  have n7_ := rgI r5_54
                  have n8_ := rgI a10_67
                  have n10_ := lo_1k
                  have n10_ := t_addD (a := v10_4) (b := Int32.ofInt 1)
                  have n11_ := rgI (v10_4 + Int32.ofInt 1)
                  have n12_ := t_addD (a := v10_5) (b := Int32.ofInt 1)
                  have n13_ := rgI (v10_5 + Int32.ofInt 1)
                  omega
                · have s71_ := (g.row (y25_.ref (y25_.ptr ptrC_39) (y25_.2.1 _ finC_31).2.1)).2
                  have s72_ := g.smk
                  unfold SmK at s72_
                  have n1_ := rgI v10_1
                  have n2_ := rgI v10_5
                  have n3_ := rgI (qI U10 (qO U10 66 0) 2)
                  have n4_ := rgI v10_4
                  have n5_ := rgI v10_3
                  have n6_ := rgI r5_54
                  have n7_ := rgI a10_67
                  have n9_ := lo_1k
                  have n9_ := t_addD (a := v10_4) (b := Int32.ofInt 1)
                  have n10_ := rgI (v10_4 + Int32.ofInt 1)
                  have n11_ := rgI a8_68
                  have n12_ := t_addD (a := v10_5) (b := Int32.ofInt 1)
                  have n13_ := rgI (v10_5 + Int32.ofInt 1)
                  omega
                · have s73_ := (g.row (y25_.ref (y25_.ptr ptrC_39) (y25_.2.1 _ finC_31).2.1)).2
                  have s74_ := g.smk
                  unfold SmK at s74_
                  have n1_ := rgI v10_1
                  have n2_ := rgI v10_5
                  have n3_ := rgI (qI U10 (qO U10 66 0) 2)
                  have n4_ := rgI v10_4
                  have n5_ := rgI v10_3
                  have n6_ := rgI r5_54
                  have n7_ := rgI a10_67
                  have n9_ := lo_1k
                  have n9_ := t_addD (a := v10_4) (b := Int32.ofInt 1)
                  have n10_ := rgI (v10_4 + Int32.ofInt 1)
                  have n11_ := rgI a8_68
                  have n12_ := t_addD (a := v10_5) (b := Int32.ofInt 1)
                  have n13_ := rgI (v10_5 + Int32.ofInt 1)
                  omega
                · have s75_ := (g.row (y25_.ref (y25_.ptr ptrC_39) (y25_.2.1 _ finC_31).2.1)).2
                  have s76_ := g.smk
                  unfold SmK at s76_
                  have n1_ := rgI a8_68
                  have n2_ := rgI v10_5
                  have n3_ := rgI v10_1
                  have n4_ := rgI (qI U10 (qO U10 66 0) 2)
                  have n5_ := rgI v10_4
                  have n6_ := rgI v10_3
                  have n7_ := rgI r5_54
                  have n8_ := rgI a10_67
                  have n10_ := lo_1k
                  have n10_ := t_addD (a := v10_4) (b := Int32.ofInt 1)
                  have n11_ := rgI (v10_4 + Int32.ofInt 1)
                  have n12_ := t_addD (a := v10_5) (b := Int32.ofInt 1)
                  have n13_ := rgI (v10_5 + Int32.ofInt 1)
                  omega
              · refine ⟨?_, ?_⟩
                · have s77_ := (g.row (y23_.ref (y23_.ptr ptrC_39) (y23_.2.1 _ finC_31).2.1)).2
                  have s78_ := g.smk
                  unfold SmK at s78_
                  have n1_ := rgI v10_1
                  have n2_ := rgI v10_5
                  have n3_ := rgI (qI U10 (qO U10 66 0) 2)
                  have n4_ := rgI v10_4
                  have n5_ := rgI v10_3
                  have n6_ := rgI r5_54
                  omega
                refine ⟨?_, ?_⟩
                · have s79_ := (g.row (y23_.ref (y23_.ptr ptrC_39) (y23_.2.1 _ finC_31).2.1)).2
                  have s80_ := g.smk
                  unfold SmK at s80_
                  have n1_ := rgI v10_1
                  have n2_ := rgI v10_5
                  have n3_ := rgI (qI U10 (qO U10 66 0) 2)
                  have n4_ := rgI v10_4
                  have n5_ := rgI v10_3
                  have n6_ := rgI r5_54
                  omega
                intro S15_81 eS15_81 y28_ y29_
                have f82_ : cfr [228] [] S6_54 S15_81 := by rw [eS15_81]; exact cfr.aI y28_ (by decide)
                have o83_ : qO S15_81 66 0 = qO S6_54 66 0 := qO_eq (f82_.kO (y23_.2.1 _ finC_31).2.1 (by decide) (by decide))
                have t84_ : (qI S15_81 (qO S15_81 66 0) 4).toInt = (qI S6_54 (qO S6_54 66 0) 4).toInt := by rw [o83_]; exact congrArg Int32.toInt (f82_.kI (j := 4) (y23_.ref (y23_.ptr ptrC_39) (y23_.2.1 _ finC_31).2.1) (by decide) (by decide))
                have t85_ : (qI S15_81 (qO S15_81 66 0) 9).toInt = (qI S6_54 (qO S6_54 66 0) 9).toInt := by rw [o83_]; exact congrArg Int32.toInt (f82_.kI (j := 9) (y23_.ref (y23_.ptr ptrC_39) (y23_.2.1 _ finC_31).2.1) (by decide) (by decide))
                have t86_ : (qI S15_81 (qO S15_81 66 0) 2).toInt = (qI S6_54 (qO S6_54 66 0) 2).toInt := by rw [o83_]; exact congrArg Int32.toInt (f82_.kI (j := 2) (y23_.ref (y23_.ptr ptrC_39) (y23_.2.1 _ finC_31).2.1) (by decide) (by decide))
                have t87_ : (qN S15_81 (qO S15_81 (qO S15_81 66 0) 1) : Int) = (qN S6_54 (qO S6_54 (qO S6_54 66 0) 1) : Int) := by rw [o83_]; exact f82_.kL (j := 1) y23_ (y23_.ref (y23_.ptr ptrC_39) (y23_.2.1 _ finC_31).2.1) (g.row (y23_.ref (y23_.ptr ptrC_39) (y23_.2.1 _ finC_31).2.1)).1.2.1 (by decide) (by decide)
                have t88_ : (qN S15_81 (qO S15_81 (qO S15_81 66 0) 8) : Int) = (qN S6_54 (qO S6_54 (qO S6_54 66 0) 8) : Int) := by rw [o83_]; exact f82_.kL (j := 8) y23_ (y23_.ref (y23_.ptr ptrC_39) (y23_.2.1 _ finC_31).2.1) (g.row (y23_.ref (y23_.ptr ptrC_39) (y23_.2.1 _ finC_31).2.1)).1.2.2.2.2.2.2 (by decide) (by decide)
                have t89_ : (qN S15_81 (qO S15_81 (qO S15_81 66 0) 7) : Int) = (qN S6_54 (qO S6_54 (qO S6_54 66 0) 7) : Int) := by rw [o83_]; exact f82_.kL (j := 7) y23_ (y23_.ref (y23_.ptr ptrC_39) (y23_.2.1 _ finC_31).2.1) (g.row (y23_.ref (y23_.ptr ptrC_39) (y23_.2.1 _ finC_31).2.1)).1.2.2.2.2.2.1 (by decide) (by decide)
                have t90_ : (qN S15_81 (qO S15_81 (qO S15_81 66 0) 0) : Int) = (qN S6_54 (qO S6_54 (qO S6_54 66 0) 0) : Int) := by rw [o83_]; exact f82_.kL (j := 0) y23_ (y23_.ref (y23_.ptr ptrC_39) (y23_.2.1 _ finC_31).2.1) (g.row (y23_.ref (y23_.ptr ptrC_39) (y23_.2.1 _ finC_31).2.1)).1.1 (by decide) (by decide)
                have t91_ : (qN S15_81 (qO S15_81 (qO S15_81 66 0) 6) : Int) = (qN S6_54 (qO S6_54 (qO S6_54 66 0) 6) : Int) := by rw [o83_]; exact f82_.kL (j := 6) y23_ (y23_.ref (y23_.ptr ptrC_39) (y23_.2.1 _ finC_31).2.1) (g.row (y23_.ref (y23_.ptr ptrC_39) (y23_.2.1 _ finC_31).2.1)).1.2.2.2.2.1 (by decide) (by decide)
                have t92_ : (qN S15_81 (qO S15_81 (qO S15_81 66 0) 3) : Int) = (qN S6_54 (qO S6_54 (qO S6_54 66 0) 3) : Int) := by rw [o83_]; exact f82_.kL (j := 3) y23_ (y23_.ref (y23_.ptr ptrC_39) (y23_.2.1 _ finC_31).2.1) (g.row (y23_.ref (y23_.ptr ptrC_39) (y23_.2.1 _ finC_31).2.1)).1.2.2.1 (by decide) (by decide)
                have t93_ : (qN S15_81 (qO S15_81 (qO S15_81 66 0) 5) : Int) = (qN S6_54 (qO S6_54 (qO S6_54 66 0) 5) : Int) := by rw [o83_]; exact f82_.kL (j := 5) y23_ (y23_.ref (y23_.ptr ptrC_39) (y23_.2.1 _ finC_31).2.1) (g.row (y23_.ref (y23_.ptr ptrC_39) (y23_.2.1 _ finC_31).2.1)).1.2.2.2.1 (by decide) (by decide)
                have g : ShC B S15_81 := ShC.ws y23_ g f82_ (by rw [eS15_81]; rfl) (by rw [eS15_81]; rfl) (by rw [eS15_81]; rfl) rfl rfl
                unfold w_X9_goThrough_J98
                intro y30_ y31_ y32_
                intro a8_94 ea8_94 
                have ga8_94 := congrArg Int32.toInt ea8_94
                refine ih10 g ?_ ?_ ?_ ?_
                · have s95_ := (g.row (y30_.ref (y30_.ptr ptrC_39) (y30_.2.1 _ finC_31).2.1)).2
                  have s96_ := g.smk
                  unfold SmK at s96_
                  have n1_ := rgI a8_94
                  have n2_ := rgI v10_5
                  have n3_ := rgI v10_1
                  have n4_ := rgI (qI U10 (qO U10 66 0) 2)
                  have n5_ := rgI v10_4
                  have n6_ := rgI v10_3
                  have n7_ := rgI r5_54
                  have n9_ := lo_1k
                  have n9_ := t_addD (a := v10_5) (b := Int32.ofInt 1)
                  have n10_ := rgI (v10_5 + Int32.ofInt 1)
                  omega
                · have s97_ := (g.row (y30_.ref (y30_.ptr ptrC_39) (y30_.2.1 _ finC_31).2.1)).2
                  have s98_ := g.smk
                  unfold SmK at s98_
                  have n1_ := rgI v10_1
                  have n2_ := rgI v10_5
                  have n3_ := rgI (qI U10 (qO U10 66 0) 2)
                  have n4_ := rgI v10_4
                  have n5_ := rgI v10_3
                  have n6_ := rgI r5_54
                  have n7_ := rgI a8_94
                  have n9_ := lo_1k
                  have n9_ := t_addD (a := v10_5) (b := Int32.ofInt 1)
                  have n10_ := rgI (v10_5 + Int32.ofInt 1)
                  omega
                · have s99_ := (g.row (y30_.ref (y30_.ptr ptrC_39) (y30_.2.1 _ finC_31).2.1)).2
                  have s100_ := g.smk
                  unfold SmK at s100_
                  have n1_ := rgI v10_1
                  have n2_ := rgI v10_5
                  have n3_ := rgI (qI U10 (qO U10 66 0) 2)
                  have n4_ := rgI v10_4
                  have n5_ := rgI v10_3
                  have n6_ := rgI r5_54
                  have n7_ := rgI a8_94
                  have n9_ := lo_1k
                  have n9_ := t_addD (a := v10_5) (b := Int32.ofInt 1)
                  have n10_ := rgI (v10_5 + Int32.ofInt 1)
                  omega
                · have s101_ := (g.row (y30_.ref (y30_.ptr ptrC_39) (y30_.2.1 _ finC_31).2.1)).2
                  have s102_ := g.smk
                  unfold SmK at s102_
                  have n1_ := rgI a8_94
                  have n2_ := rgI v10_5
                  have n3_ := rgI v10_1
                  have n4_ := rgI (qI U10 (qO U10 66 0) 2)
                  have n5_ := rgI v10_4
                  have n6_ := rgI v10_3
                  have n7_ := rgI r5_54
                  have n9_ := lo_1k
                  have n9_ := t_addD (a := v10_5) (b := Int32.ofInt 1)
                  have n10_ := rgI (v10_5 + Int32.ofInt 1)
                  omega
            · refine ⟨fun c103_ => ?_, fun c103_ => ?_⟩
              · unfold w_X9_goThrough_J68
                intro y33_ y34_
                refine ⟨_, frX9_isDone y33_ (sgX9_isDone y33_ g (by have s105_ := (g.row (y33_.ref (y33_.ptr ptrC_39) (y33_.2.1 _ finC_31).2.1)).2; have s106_ := g.smk; unfold SmK at s106_; have n1_ := rgI v10_4; have n2_ := rgI v10_5; have n3_ := rgI v10_1; have n4_ := rgI (qI U10 (qO U10 66 0) 2); have n5_ := rgI v10_3; omega)), ?_⟩
                intro r5_104 S6_104 q35_ y36_ y37_
                have o107_ : qO S6_104 66 0 = qO U10 66 0 := qO_eq (q35_.2.kO (y33_.2.1 _ finC_31).2.1 (by decide) (by decide))
                have t108_ : (qI S6_104 (qO S6_104 66 0) 4).toInt = (qI U10 (qO U10 66 0) 4).toInt := by rw [o107_]; exact congrArg Int32.toInt (q35_.2.kI (j := 4) (y33_.ref (y33_.ptr ptrC_39) (y33_.2.1 _ finC_31).2.1) (by decide) (by decide))
                have t109_ : (qN S6_104 (qO S6_104 (qO S6_104 66 0) 1) : Int) = (qN U10 (qO U10 (qO U10 66 0) 1) : Int) := by rw [o107_]; exact q35_.2.kL (j := 1) y33_ (y33_.ref (y33_.ptr ptrC_39) (y33_.2.1 _ finC_31).2.1) (g.row (y33_.ref (y33_.ptr ptrC_39) (y33_.2.1 _ finC_31).2.1)).1.2.1 (by decide) (by decide)
                have t110_ : (qN S6_104 (qO S6_104 (qO S6_104 66 0) 8) : Int) = (qN U10 (qO U10 (qO U10 66 0) 8) : Int) := by rw [o107_]; exact q35_.2.kL (j := 8) y33_ (y33_.ref (y33_.ptr ptrC_39) (y33_.2.1 _ finC_31).2.1) (g.row (y33_.ref (y33_.ptr ptrC_39) (y33_.2.1 _ finC_31).2.1)).1.2.2.2.2.2.2 (by decide) (by decide)
                have t111_ : (qN S6_104 (qO S6_104 (qO S6_104 66 0) 7) : Int) = (qN U10 (qO U10 (qO U10 66 0) 7) : Int) := by rw [o107_]; exact q35_.2.kL (j := 7) y33_ (y33_.ref (y33_.ptr ptrC_39) (y33_.2.1 _ finC_31).2.1) (g.row (y33_.ref (y33_.ptr ptrC_39) (y33_.2.1 _ finC_31).2.1)).1.2.2.2.2.2.1 (by decide) (by decide)
                have t112_ : (qN S6_104 (qO S6_104 (qO S6_104 66 0) 0) : Int) = (qN U10 (qO U10 (qO U10 66 0) 0) : Int) := by rw [o107_]; exact q35_.2.kL (j := 0) y33_ (y33_.ref (y33_.ptr ptrC_39) (y33_.2.1 _ finC_31).2.1) (g.row (y33_.ref (y33_.ptr ptrC_39) (y33_.2.1 _ finC_31).2.1)).1.1 (by decide) (by decide)
                have t113_ : (qN S6_104 (qO S6_104 (qO S6_104 66 0) 6) : Int) = (qN U10 (qO U10 (qO U10 66 0) 6) : Int) := by rw [o107_]; exact q35_.2.kL (j := 6) y33_ (y33_.ref (y33_.ptr ptrC_39) (y33_.2.1 _ finC_31).2.1) (g.row (y33_.ref (y33_.ptr ptrC_39) (y33_.2.1 _ finC_31).2.1)).1.2.2.2.2.1 (by decide) (by decide)
                have t114_ : (qN S6_104 (qO S6_104 (qO S6_104 66 0) 3) : Int) = (qN U10 (qO U10 (qO U10 66 0) 3) : Int) := by rw [o107_]; exact q35_.2.kL (j := 3) y33_ (y33_.ref (y33_.ptr ptrC_39) (y33_.2.1 _ finC_31).2.1) (g.row (y33_.ref (y33_.ptr ptrC_39) (y33_.2.1 _ finC_31).2.1)).1.2.2.1 (by decide) (by decide)
                have t115_ : (qN S6_104 (qO S6_104 (qO S6_104 66 0) 5) : Int) = (qN U10 (qO U10 (qO U10 66 0) 5) : Int) := by rw [o107_]; exact q35_.2.kL (j := 5) y33_ (y33_.ref (y33_.ptr ptrC_39) (y33_.2.1 _ finC_31).2.1) (g.row (y33_.ref (y33_.ptr ptrC_39) (y33_.2.1 _ finC_31).2.1)).1.2.2.2.1 (by decide) (by decide)
                have g : ShC B S6_104 := q35_.1.1
                refine ⟨fun c116_ => ?_, fun c116_ => ?_⟩
                · intro a10_117 ea10_117 
                  have ga10_117 := congrArg Int32.toInt ea10_117
                  unfold w_X9_goThrough_J98
                  intro y38_ y39_ y40_
                  intro a8_118 ea8_118 
                  have ga8_118 := congrArg Int32.toInt ea8_118
                  refine ih10 g ?_ ?_ ?_ ?_
                  · have s119_ := (g.row (y38_.ref (y38_.ptr ptrC_39) (y38_.2.1 _ finC_31).2.1)).2
                    have s120_ := g.smk
                    unfold SmK at s120_
                    have n1_ := rgI a8_118
                    have n2_ := rgI v10_5
                    have n3_ := rgI v10_1
                    have n4_ := rgI (qI U10 (qO U10 66 0) 2)
                    have n5_ := rgI v10_4
                    have n6_ := rgI v10_3
                    have n7_ := rgI r5_104
                    have n8_ := rgI a10_117
                    have n10_ := lo_1k
                    have n10_ := t_addD (a := v10_4) (b := Int32.ofInt 1)
                    have n11_ := rgI (v10_4 + Int32.ofInt 1)
                    have n12_ := t_addD (a := v10_5) (b := Int32.ofInt 1)
                    have n13_ := rgI (v10_5 + Int32.ofInt 1)
                    omega
                  · have s121_ := (g.row (y38_.ref (y38_.ptr ptrC_39) (y38_.2.1 _ finC_31).2.1)).2
                    have s122_ := g.smk
                    unfold SmK at s122_
                    have n1_ := rgI v10_1
                    have n2_ := rgI v10_5
                    have n3_ := rgI (qI U10 (qO U10 66 0) 2)
                    have n4_ := rgI v10_4
                    have n5_ := rgI v10_3
                    have n6_ := rgI r5_104
                    have n7_ := rgI a10_117
                    have n9_ := lo_1k
                    have n9_ := t_addD (a := v10_4) (b := Int32.ofInt 1)
                    have n10_ := rgI (v10_4 + Int32.ofInt 1)
                    have n11_ := rgI a8_118
                    have n12_ := t_addD (a := v10_5) (b := Int32.ofInt 1)
                    have n13_ := rgI (v10_5 + Int32.ofInt 1)
                    omega
                  · have s123_ := (g.row (y38_.ref (y38_.ptr ptrC_39) (y38_.2.1 _ finC_31).2.1)).2
                    have s124_ := g.smk
                    unfold SmK at s124_
                    have n1_ := rgI v10_1
                    have n2_ := rgI v10_5
                    have n3_ := rgI (qI U10 (qO U10 66 0) 2)
                    have n4_ := rgI v10_4
                    have n5_ := rgI v10_3
                    have n6_ := rgI r5_104
                    have n7_ := rgI a10_117
                    have n9_ := lo_1k
                    have n9_ := t_addD (a := v10_4) (b := Int32.ofInt 1)
                    have n10_ := rgI (v10_4 + Int32.ofInt 1)
                    have n11_ := rgI a8_118
                    have n12_ := t_addD (a := v10_5) (b := Int32.ofInt 1)
                    have n13_ := rgI (v10_5 + Int32.ofInt 1)
                    omega
                  · have s125_ := (g.row (y38_.ref (y38_.ptr ptrC_39) (y38_.2.1 _ finC_31).2.1)).2
                    have s126_ := g.smk
                    unfold SmK at s126_
                    have n1_ := rgI a8_118
                    have n2_ := rgI v10_5
                    have n3_ := rgI v10_1
                    have n4_ := rgI (qI U10 (qO U10 66 0) 2)
                    have n5_ := rgI v10_4
                    have n6_ := rgI v10_3
                    have n7_ := rgI r5_104
                    have n8_ := rgI a10_117
                    have n10_ := lo_1k
                    have n10_ := t_addD (a := v10_4) (b := Int32.ofInt 1)
                    have n11_ := rgI (v10_4 + Int32.ofInt 1)
                    have n12_ := t_addD (a := v10_5) (b := Int32.ofInt 1)
                    have n13_ := rgI (v10_5 + Int32.ofInt 1)
                    omega
                · refine ⟨?_, ?_⟩
                  · have s127_ := (g.row (y36_.ref (y36_.ptr ptrC_39) (y36_.2.1 _ finC_31).2.1)).2
                    have s128_ := g.smk
                    unfold SmK at s128_
                    have n1_ := rgI v10_1
                    have n2_ := rgI v10_5
                    have n3_ := rgI (qI U10 (qO U10 66 0) 2)
                    have n4_ := rgI v10_4
                    have n5_ := rgI v10_3
                    have n6_ := rgI r5_104
                    omega
                  refine ⟨?_, ?_⟩
                  · have s129_ := (g.row (y36_.ref (y36_.ptr ptrC_39) (y36_.2.1 _ finC_31).2.1)).2
                    have s130_ := g.smk
                    unfold SmK at s130_
                    have n1_ := rgI v10_1
                    have n2_ := rgI v10_5
                    have n3_ := rgI (qI U10 (qO U10 66 0) 2)
                    have n4_ := rgI v10_4
                    have n5_ := rgI v10_3
                    have n6_ := rgI r5_104
                    omega
                  intro S15_131 eS15_131 y41_ y42_
                  have f132_ : cfr [228] [] S6_104 S15_131 := by rw [eS15_131]; exact cfr.aI y41_ (by decide)
                  have o133_ : qO S15_131 66 0 = qO S6_104 66 0 := qO_eq (f132_.kO (y36_.2.1 _ finC_31).2.1 (by decide) (by decide))
                  have t134_ : (qI S15_131 (qO S15_131 66 0) 4).toInt = (qI S6_104 (qO S6_104 66 0) 4).toInt := by rw [o133_]; exact congrArg Int32.toInt (f132_.kI (j := 4) (y36_.ref (y36_.ptr ptrC_39) (y36_.2.1 _ finC_31).2.1) (by decide) (by decide))
                  have t135_ : (qI S15_131 (qO S15_131 66 0) 9).toInt = (qI S6_104 (qO S6_104 66 0) 9).toInt := by rw [o133_]; exact congrArg Int32.toInt (f132_.kI (j := 9) (y36_.ref (y36_.ptr ptrC_39) (y36_.2.1 _ finC_31).2.1) (by decide) (by decide))
                  have t136_ : (qI S15_131 (qO S15_131 66 0) 2).toInt = (qI S6_104 (qO S6_104 66 0) 2).toInt := by rw [o133_]; exact congrArg Int32.toInt (f132_.kI (j := 2) (y36_.ref (y36_.ptr ptrC_39) (y36_.2.1 _ finC_31).2.1) (by decide) (by decide))
                  have t137_ : (qN S15_131 (qO S15_131 (qO S15_131 66 0) 1) : Int) = (qN S6_104 (qO S6_104 (qO S6_104 66 0) 1) : Int) := by rw [o133_]; exact f132_.kL (j := 1) y36_ (y36_.ref (y36_.ptr ptrC_39) (y36_.2.1 _ finC_31).2.1) (g.row (y36_.ref (y36_.ptr ptrC_39) (y36_.2.1 _ finC_31).2.1)).1.2.1 (by decide) (by decide)
                  have t138_ : (qN S15_131 (qO S15_131 (qO S15_131 66 0) 8) : Int) = (qN S6_104 (qO S6_104 (qO S6_104 66 0) 8) : Int) := by rw [o133_]; exact f132_.kL (j := 8) y36_ (y36_.ref (y36_.ptr ptrC_39) (y36_.2.1 _ finC_31).2.1) (g.row (y36_.ref (y36_.ptr ptrC_39) (y36_.2.1 _ finC_31).2.1)).1.2.2.2.2.2.2 (by decide) (by decide)
                  have t139_ : (qN S15_131 (qO S15_131 (qO S15_131 66 0) 7) : Int) = (qN S6_104 (qO S6_104 (qO S6_104 66 0) 7) : Int) := by rw [o133_]; exact f132_.kL (j := 7) y36_ (y36_.ref (y36_.ptr ptrC_39) (y36_.2.1 _ finC_31).2.1) (g.row (y36_.ref (y36_.ptr ptrC_39) (y36_.2.1 _ finC_31).2.1)).1.2.2.2.2.2.1 (by decide) (by decide)
                  have t140_ : (qN S15_131 (qO S15_131 (qO S15_131 66 0) 0) : Int) = (qN S6_104 (qO S6_104 (qO S6_104 66 0) 0) : Int) := by rw [o133_]; exact f132_.kL (j := 0) y36_ (y36_.ref (y36_.ptr ptrC_39) (y36_.2.1 _ finC_31).2.1) (g.row (y36_.ref (y36_.ptr ptrC_39) (y36_.2.1 _ finC_31).2.1)).1.1 (by decide) (by decide)
                  have t141_ : (qN S15_131 (qO S15_131 (qO S15_131 66 0) 6) : Int) = (qN S6_104 (qO S6_104 (qO S6_104 66 0) 6) : Int) := by rw [o133_]; exact f132_.kL (j := 6) y36_ (y36_.ref (y36_.ptr ptrC_39) (y36_.2.1 _ finC_31).2.1) (g.row (y36_.ref (y36_.ptr ptrC_39) (y36_.2.1 _ finC_31).2.1)).1.2.2.2.2.1 (by decide) (by decide)
                  have t142_ : (qN S15_131 (qO S15_131 (qO S15_131 66 0) 3) : Int) = (qN S6_104 (qO S6_104 (qO S6_104 66 0) 3) : Int) := by rw [o133_]; exact f132_.kL (j := 3) y36_ (y36_.ref (y36_.ptr ptrC_39) (y36_.2.1 _ finC_31).2.1) (g.row (y36_.ref (y36_.ptr ptrC_39) (y36_.2.1 _ finC_31).2.1)).1.2.2.1 (by decide) (by decide)
                  have t143_ : (qN S15_131 (qO S15_131 (qO S15_131 66 0) 5) : Int) = (qN S6_104 (qO S6_104 (qO S6_104 66 0) 5) : Int) := by rw [o133_]; exact f132_.kL (j := 5) y36_ (y36_.ref (y36_.ptr ptrC_39) (y36_.2.1 _ finC_31).2.1) (g.row (y36_.ref (y36_.ptr ptrC_39) (y36_.2.1 _ finC_31).2.1)).1.2.2.2.1 (by decide) (by decide)
                  have g : ShC B S15_131 := ShC.ws y36_ g f132_ (by rw [eS15_131]; rfl) (by rw [eS15_131]; rfl) (by rw [eS15_131]; rfl) rfl rfl
                  unfold w_X9_goThrough_J98
                  intro y43_ y44_ y45_
                  intro a8_144 ea8_144 
                  have ga8_144 := congrArg Int32.toInt ea8_144
                  refine ih10 g ?_ ?_ ?_ ?_
                  · have s145_ := (g.row (y43_.ref (y43_.ptr ptrC_39) (y43_.2.1 _ finC_31).2.1)).2
                    have s146_ := g.smk
                    unfold SmK at s146_
                    have n1_ := rgI a8_144
                    have n2_ := rgI v10_5
                    have n3_ := rgI v10_1
                    have n4_ := rgI (qI U10 (qO U10 66 0) 2)
                    have n5_ := rgI v10_4
                    have n6_ := rgI v10_3
                    have n7_ := rgI r5_104
                    have n9_ := lo_1k
                    have n9_ := t_addD (a := v10_5) (b := Int32.ofInt 1)
                    have n10_ := rgI (v10_5 + Int32.ofInt 1)
                    omega
                  · have s147_ := (g.row (y43_.ref (y43_.ptr ptrC_39) (y43_.2.1 _ finC_31).2.1)).2
                    have s148_ := g.smk
                    unfold SmK at s148_
                    have n1_ := rgI v10_1
                    have n2_ := rgI v10_5
                    have n3_ := rgI (qI U10 (qO U10 66 0) 2)
                    have n4_ := rgI v10_4
                    have n5_ := rgI v10_3
                    have n6_ := rgI r5_104
                    have n7_ := rgI a8_144
                    have n9_ := lo_1k
                    have n9_ := t_addD (a := v10_5) (b := Int32.ofInt 1)
                    have n10_ := rgI (v10_5 + Int32.ofInt 1)
                    omega
                  · have s149_ := (g.row (y43_.ref (y43_.ptr ptrC_39) (y43_.2.1 _ finC_31).2.1)).2
                    have s150_ := g.smk
                    unfold SmK at s150_
                    have n1_ := rgI v10_1
                    have n2_ := rgI v10_5
                    have n3_ := rgI (qI U10 (qO U10 66 0) 2)
                    have n4_ := rgI v10_4
                    have n5_ := rgI v10_3
                    have n6_ := rgI r5_104
                    have n7_ := rgI a8_144
                    have n9_ := lo_1k
                    have n9_ := t_addD (a := v10_5) (b := Int32.ofInt 1)
                    have n10_ := rgI (v10_5 + Int32.ofInt 1)
                    omega
                  · have s151_ := (g.row (y43_.ref (y43_.ptr ptrC_39) (y43_.2.1 _ finC_31).2.1)).2
                    have s152_ := g.smk
                    unfold SmK at s152_
                    have n1_ := rgI a8_144
                    have n2_ := rgI v10_5
                    have n3_ := rgI v10_1
                    have n4_ := rgI (qI U10 (qO U10 66 0) 2)
                    have n5_ := rgI v10_4
                    have n6_ := rgI v10_3
                    have n7_ := rgI r5_104
                    have n9_ := lo_1k
                    have n9_ := t_addD (a := v10_5) (b := Int32.ofInt 1)
                    have n10_ := rgI (v10_5 + Int32.ofInt 1)
                    omega
              · refine ⟨_, frX9_findMarked y4_ (sgX9_findMarked y4_ g), ?_⟩
                intro S20_153 q46_ y47_ y48_
                have o154_ : qO S20_153 66 0 = qO U10 66 0 := qO_eq (q46_.2.kO (y4_.2.1 _ finC_31).2.1 (by decide) (by decide))
                have t155_ : (qI S20_153 (qO S20_153 66 0) 4).toInt = (qI U10 (qO U10 66 0) 4).toInt := by rw [o154_]; exact congrArg Int32.toInt (q46_.2.kI (j := 4) (y4_.ref (y4_.ptr ptrC_39) (y4_.2.1 _ finC_31).2.1) (by decide) (by decide))
                have t156_ : (qI S20_153 (qO S20_153 66 0) 9).toInt = (qI U10 (qO U10 66 0) 9).toInt := by rw [o154_]; exact congrArg Int32.toInt (q46_.2.kI (j := 9) (y4_.ref (y4_.ptr ptrC_39) (y4_.2.1 _ finC_31).2.1) (by decide) (by decide))
                have t157_ : (qI S20_153 (qO S20_153 66 0) 2).toInt = (qI U10 (qO U10 66 0) 2).toInt := by rw [o154_]; exact congrArg Int32.toInt (q46_.2.kI (j := 2) (y4_.ref (y4_.ptr ptrC_39) (y4_.2.1 _ finC_31).2.1) (by decide) (by decide))
                have t158_ : (qN S20_153 (qO S20_153 (qO S20_153 66 0) 1) : Int) = (qN U10 (qO U10 (qO U10 66 0) 1) : Int) := by rw [o154_]; exact q46_.2.kL (j := 1) y4_ (y4_.ref (y4_.ptr ptrC_39) (y4_.2.1 _ finC_31).2.1) (g.row (y4_.ref (y4_.ptr ptrC_39) (y4_.2.1 _ finC_31).2.1)).1.2.1 (by decide) (by decide)
                have t159_ : (qN S20_153 (qO S20_153 (qO S20_153 66 0) 8) : Int) = (qN U10 (qO U10 (qO U10 66 0) 8) : Int) := by rw [o154_]; exact q46_.2.kL (j := 8) y4_ (y4_.ref (y4_.ptr ptrC_39) (y4_.2.1 _ finC_31).2.1) (g.row (y4_.ref (y4_.ptr ptrC_39) (y4_.2.1 _ finC_31).2.1)).1.2.2.2.2.2.2 (by decide) (by decide)
                have t160_ : (qN S20_153 (qO S20_153 (qO S20_153 66 0) 7) : Int) = (qN U10 (qO U10 (qO U10 66 0) 7) : Int) := by rw [o154_]; exact q46_.2.kL (j := 7) y4_ (y4_.ref (y4_.ptr ptrC_39) (y4_.2.1 _ finC_31).2.1) (g.row (y4_.ref (y4_.ptr ptrC_39) (y4_.2.1 _ finC_31).2.1)).1.2.2.2.2.2.1 (by decide) (by decide)
                have t161_ : (qN S20_153 (qO S20_153 (qO S20_153 66 0) 0) : Int) = (qN U10 (qO U10 (qO U10 66 0) 0) : Int) := by rw [o154_]; exact q46_.2.kL (j := 0) y4_ (y4_.ref (y4_.ptr ptrC_39) (y4_.2.1 _ finC_31).2.1) (g.row (y4_.ref (y4_.ptr ptrC_39) (y4_.2.1 _ finC_31).2.1)).1.1 (by decide) (by decide)
                have t162_ : (qN S20_153 (qO S20_153 (qO S20_153 66 0) 6) : Int) = (qN U10 (qO U10 (qO U10 66 0) 6) : Int) := by rw [o154_]; exact q46_.2.kL (j := 6) y4_ (y4_.ref (y4_.ptr ptrC_39) (y4_.2.1 _ finC_31).2.1) (g.row (y4_.ref (y4_.ptr ptrC_39) (y4_.2.1 _ finC_31).2.1)).1.2.2.2.2.1 (by decide) (by decide)
                have t163_ : (qN S20_153 (qO S20_153 (qO S20_153 66 0) 3) : Int) = (qN U10 (qO U10 (qO U10 66 0) 3) : Int) := by rw [o154_]; exact q46_.2.kL (j := 3) y4_ (y4_.ref (y4_.ptr ptrC_39) (y4_.2.1 _ finC_31).2.1) (g.row (y4_.ref (y4_.ptr ptrC_39) (y4_.2.1 _ finC_31).2.1)).1.2.2.1 (by decide) (by decide)
                have t164_ : (qN S20_153 (qO S20_153 (qO S20_153 66 0) 5) : Int) = (qN U10 (qO U10 (qO U10 66 0) 5) : Int) := by rw [o154_]; exact q46_.2.kL (j := 5) y4_ (y4_.ref (y4_.ptr ptrC_39) (y4_.2.1 _ finC_31).2.1) (g.row (y4_.ref (y4_.ptr ptrC_39) (y4_.2.1 _ finC_31).2.1)).1.2.2.2.1 (by decide) (by decide)
                have g : ShC B S20_153 := q46_.1.1
                unfold w_X9_goThrough_J68
                intro y49_ y50_
                refine ⟨_, frX9_isDone y49_ (sgX9_isDone y49_ g (by have s166_ := (g.row (y49_.ref (y49_.ptr ptrC_39) (y49_.2.1 _ finC_31).2.1)).2; have s167_ := g.smk; unfold SmK at s167_; have n1_ := rgI v10_4; have n2_ := rgI v10_5; have n3_ := rgI v10_1; have n4_ := rgI (qI U10 (qO U10 66 0) 2); have n5_ := rgI v10_3; omega)), ?_⟩
                intro r5_165 S6_165 q51_ y52_ y53_
                have o168_ : qO S6_165 66 0 = qO S20_153 66 0 := qO_eq (q51_.2.kO (y49_.2.1 _ finC_31).2.1 (by decide) (by decide))
                have t169_ : (qI S6_165 (qO S6_165 66 0) 4).toInt = (qI S20_153 (qO S20_153 66 0) 4).toInt := by rw [o168_]; exact congrArg Int32.toInt (q51_.2.kI (j := 4) (y49_.ref (y49_.ptr ptrC_39) (y49_.2.1 _ finC_31).2.1) (by decide) (by decide))
                have t170_ : (qN S6_165 (qO S6_165 (qO S6_165 66 0) 1) : Int) = (qN S20_153 (qO S20_153 (qO S20_153 66 0) 1) : Int) := by rw [o168_]; exact q51_.2.kL (j := 1) y49_ (y49_.ref (y49_.ptr ptrC_39) (y49_.2.1 _ finC_31).2.1) (g.row (y49_.ref (y49_.ptr ptrC_39) (y49_.2.1 _ finC_31).2.1)).1.2.1 (by decide) (by decide)
                have t171_ : (qN S6_165 (qO S6_165 (qO S6_165 66 0) 8) : Int) = (qN S20_153 (qO S20_153 (qO S20_153 66 0) 8) : Int) := by rw [o168_]; exact q51_.2.kL (j := 8) y49_ (y49_.ref (y49_.ptr ptrC_39) (y49_.2.1 _ finC_31).2.1) (g.row (y49_.ref (y49_.ptr ptrC_39) (y49_.2.1 _ finC_31).2.1)).1.2.2.2.2.2.2 (by decide) (by decide)
                have t172_ : (qN S6_165 (qO S6_165 (qO S6_165 66 0) 7) : Int) = (qN S20_153 (qO S20_153 (qO S20_153 66 0) 7) : Int) := by rw [o168_]; exact q51_.2.kL (j := 7) y49_ (y49_.ref (y49_.ptr ptrC_39) (y49_.2.1 _ finC_31).2.1) (g.row (y49_.ref (y49_.ptr ptrC_39) (y49_.2.1 _ finC_31).2.1)).1.2.2.2.2.2.1 (by decide) (by decide)
                have t173_ : (qN S6_165 (qO S6_165 (qO S6_165 66 0) 0) : Int) = (qN S20_153 (qO S20_153 (qO S20_153 66 0) 0) : Int) := by rw [o168_]; exact q51_.2.kL (j := 0) y49_ (y49_.ref (y49_.ptr ptrC_39) (y49_.2.1 _ finC_31).2.1) (g.row (y49_.ref (y49_.ptr ptrC_39) (y49_.2.1 _ finC_31).2.1)).1.1 (by decide) (by decide)
                have t174_ : (qN S6_165 (qO S6_165 (qO S6_165 66 0) 6) : Int) = (qN S20_153 (qO S20_153 (qO S20_153 66 0) 6) : Int) := by rw [o168_]; exact q51_.2.kL (j := 6) y49_ (y49_.ref (y49_.ptr ptrC_39) (y49_.2.1 _ finC_31).2.1) (g.row (y49_.ref (y49_.ptr ptrC_39) (y49_.2.1 _ finC_31).2.1)).1.2.2.2.2.1 (by decide) (by decide)
                have t175_ : (qN S6_165 (qO S6_165 (qO S6_165 66 0) 3) : Int) = (qN S20_153 (qO S20_153 (qO S20_153 66 0) 3) : Int) := by rw [o168_]; exact q51_.2.kL (j := 3) y49_ (y49_.ref (y49_.ptr ptrC_39) (y49_.2.1 _ finC_31).2.1) (g.row (y49_.ref (y49_.ptr ptrC_39) (y49_.2.1 _ finC_31).2.1)).1.2.2.1 (by decide) (by decide)
                have t176_ : (qN S6_165 (qO S6_165 (qO S6_165 66 0) 5) : Int) = (qN S20_153 (qO S20_153 (qO S20_153 66 0) 5) : Int) := by rw [o168_]; exact q51_.2.kL (j := 5) y49_ (y49_.ref (y49_.ptr ptrC_39) (y49_.2.1 _ finC_31).2.1) (g.row (y49_.ref (y49_.ptr ptrC_39) (y49_.2.1 _ finC_31).2.1)).1.2.2.2.1 (by decide) (by decide)
                have g : ShC B S6_165 := q51_.1.1
                refine ⟨fun c177_ => ?_, fun c177_ => ?_⟩
                · intro a10_178 ea10_178 
                  have ga10_178 := congrArg Int32.toInt ea10_178
                  unfold w_X9_goThrough_J98
                  intro y54_ y55_ y56_
                  intro a8_179 ea8_179 
                  have ga8_179 := congrArg Int32.toInt ea8_179
                  refine ih10 g ?_ ?_ ?_ ?_
                  · have s180_ := (g.row (y54_.ref (y54_.ptr ptrC_39) (y54_.2.1 _ finC_31).2.1)).2
                    have s181_ := g.smk
                    unfold SmK at s181_
                    have n1_ := rgI a8_179
                    have n2_ := rgI v10_5
                    have n3_ := rgI v10_1
                    have n4_ := rgI (qI U10 (qO U10 66 0) 2)
                    have n5_ := rgI v10_4
                    have n6_ := rgI v10_3
                    have n7_ := rgI r5_165
                    have n8_ := rgI a10_178
                    have n10_ := lo_1k
                    have n10_ := t_addD (a := v10_4) (b := Int32.ofInt 1)
                    have n11_ := rgI (v10_4 + Int32.ofInt 1)
                    have n12_ := t_addD (a := v10_5) (b := Int32.ofInt 1)
                    have n13_ := rgI (v10_5 + Int32.ofInt 1)
                    omega
                  · have s182_ := (g.row (y54_.ref (y54_.ptr ptrC_39) (y54_.2.1 _ finC_31).2.1)).2
                    have s183_ := g.smk
                    unfold SmK at s183_
                    have n1_ := rgI v10_1
                    have n2_ := rgI v10_5
                    have n3_ := rgI (qI U10 (qO U10 66 0) 2)
                    have n4_ := rgI v10_4
                    have n5_ := rgI v10_3
                    have n6_ := rgI r5_165
                    have n7_ := rgI a10_178
                    have n9_ := lo_1k
                    have n9_ := t_addD (a := v10_4) (b := Int32.ofInt 1)
                    have n10_ := rgI (v10_4 + Int32.ofInt 1)
                    have n11_ := rgI a8_179
                    have n12_ := t_addD (a := v10_5) (b := Int32.ofInt 1)
                    have n13_ := rgI (v10_5 + Int32.ofInt 1)
                    omega
                  · have s184_ := (g.row (y54_.ref (y54_.ptr ptrC_39) (y54_.2.1 _ finC_31).2.1)).2
                    have s185_ := g.smk
                    unfold SmK at s185_
                    have n1_ := rgI v10_1
                    have n2_ := rgI v10_5
                    have n3_ := rgI (qI U10 (qO U10 66 0) 2)
                    have n4_ := rgI v10_4
                    have n5_ := rgI v10_3
                    have n6_ := rgI r5_165
                    have n7_ := rgI a10_178
                    have n9_ := lo_1k
                    have n9_ := t_addD (a := v10_4) (b := Int32.ofInt 1)
                    have n10_ := rgI (v10_4 + Int32.ofInt 1)
                    have n11_ := rgI a8_179
                    have n12_ := t_addD (a := v10_5) (b := Int32.ofInt 1)
                    have n13_ := rgI (v10_5 + Int32.ofInt 1)
                    omega
                  · have s186_ := (g.row (y54_.ref (y54_.ptr ptrC_39) (y54_.2.1 _ finC_31).2.1)).2
                    have s187_ := g.smk
                    unfold SmK at s187_
                    have n1_ := rgI a8_179
                    have n2_ := rgI v10_5
                    have n3_ := rgI v10_1
                    have n4_ := rgI (qI U10 (qO U10 66 0) 2)
                    have n5_ := rgI v10_4
                    have n6_ := rgI v10_3
                    have n7_ := rgI r5_165
                    have n8_ := rgI a10_178
                    have n10_ := lo_1k
                    have n10_ := t_addD (a := v10_4) (b := Int32.ofInt 1)
                    have n11_ := rgI (v10_4 + Int32.ofInt 1)
                    have n12_ := t_addD (a := v10_5) (b := Int32.ofInt 1)
                    have n13_ := rgI (v10_5 + Int32.ofInt 1)
                    omega
                · refine ⟨?_, ?_⟩
                  · have s188_ := (g.row (y52_.ref (y52_.ptr ptrC_39) (y52_.2.1 _ finC_31).2.1)).2
                    have s189_ := g.smk
                    unfold SmK at s189_
                    have n1_ := rgI v10_1
                    have n2_ := rgI v10_5
                    have n3_ := rgI (qI U10 (qO U10 66 0) 2)
                    have n4_ := rgI v10_4
                    have n5_ := rgI v10_3
                    have n6_ := rgI r5_165
                    omega
                  refine ⟨?_, ?_⟩
                  · have s190_ := (g.row (y52_.ref (y52_.ptr ptrC_39) (y52_.2.1 _ finC_31).2.1)).2
                    have s191_ := g.smk
                    unfold SmK at s191_
                    have n1_ := rgI v10_1
                    have n2_ := rgI v10_5
                    have n3_ := rgI (qI U10 (qO U10 66 0) 2)
                    have n4_ := rgI v10_4
                    have n5_ := rgI v10_3
                    have n6_ := rgI r5_165
                    omega
                  intro S15_192 eS15_192 y57_ y58_
                  have f193_ : cfr [228] [] S6_165 S15_192 := by rw [eS15_192]; exact cfr.aI y57_ (by decide)
                  have o194_ : qO S15_192 66 0 = qO S6_165 66 0 := qO_eq (f193_.kO (y52_.2.1 _ finC_31).2.1 (by decide) (by decide))
                  have t195_ : (qI S15_192 (qO S15_192 66 0) 4).toInt = (qI S6_165 (qO S6_165 66 0) 4).toInt := by rw [o194_]; exact congrArg Int32.toInt (f193_.kI (j := 4) (y52_.ref (y52_.ptr ptrC_39) (y52_.2.1 _ finC_31).2.1) (by decide) (by decide))
                  have t196_ : (qI S15_192 (qO S15_192 66 0) 9).toInt = (qI S6_165 (qO S6_165 66 0) 9).toInt := by rw [o194_]; exact congrArg Int32.toInt (f193_.kI (j := 9) (y52_.ref (y52_.ptr ptrC_39) (y52_.2.1 _ finC_31).2.1) (by decide) (by decide))
                  have t197_ : (qI S15_192 (qO S15_192 66 0) 2).toInt = (qI S6_165 (qO S6_165 66 0) 2).toInt := by rw [o194_]; exact congrArg Int32.toInt (f193_.kI (j := 2) (y52_.ref (y52_.ptr ptrC_39) (y52_.2.1 _ finC_31).2.1) (by decide) (by decide))
                  have t198_ : (qN S15_192 (qO S15_192 (qO S15_192 66 0) 1) : Int) = (qN S6_165 (qO S6_165 (qO S6_165 66 0) 1) : Int) := by rw [o194_]; exact f193_.kL (j := 1) y52_ (y52_.ref (y52_.ptr ptrC_39) (y52_.2.1 _ finC_31).2.1) (g.row (y52_.ref (y52_.ptr ptrC_39) (y52_.2.1 _ finC_31).2.1)).1.2.1 (by decide) (by decide)
                  have t199_ : (qN S15_192 (qO S15_192 (qO S15_192 66 0) 8) : Int) = (qN S6_165 (qO S6_165 (qO S6_165 66 0) 8) : Int) := by rw [o194_]; exact f193_.kL (j := 8) y52_ (y52_.ref (y52_.ptr ptrC_39) (y52_.2.1 _ finC_31).2.1) (g.row (y52_.ref (y52_.ptr ptrC_39) (y52_.2.1 _ finC_31).2.1)).1.2.2.2.2.2.2 (by decide) (by decide)
                  have t200_ : (qN S15_192 (qO S15_192 (qO S15_192 66 0) 7) : Int) = (qN S6_165 (qO S6_165 (qO S6_165 66 0) 7) : Int) := by rw [o194_]; exact f193_.kL (j := 7) y52_ (y52_.ref (y52_.ptr ptrC_39) (y52_.2.1 _ finC_31).2.1) (g.row (y52_.ref (y52_.ptr ptrC_39) (y52_.2.1 _ finC_31).2.1)).1.2.2.2.2.2.1 (by decide) (by decide)
                  have t201_ : (qN S15_192 (qO S15_192 (qO S15_192 66 0) 0) : Int) = (qN S6_165 (qO S6_165 (qO S6_165 66 0) 0) : Int) := by rw [o194_]; exact f193_.kL (j := 0) y52_ (y52_.ref (y52_.ptr ptrC_39) (y52_.2.1 _ finC_31).2.1) (g.row (y52_.ref (y52_.ptr ptrC_39) (y52_.2.1 _ finC_31).2.1)).1.1 (by decide) (by decide)
                  have t202_ : (qN S15_192 (qO S15_192 (qO S15_192 66 0) 6) : Int) = (qN S6_165 (qO S6_165 (qO S6_165 66 0) 6) : Int) := by rw [o194_]; exact f193_.kL (j := 6) y52_ (y52_.ref (y52_.ptr ptrC_39) (y52_.2.1 _ finC_31).2.1) (g.row (y52_.ref (y52_.ptr ptrC_39) (y52_.2.1 _ finC_31).2.1)).1.2.2.2.2.1 (by decide) (by decide)
                  have t203_ : (qN S15_192 (qO S15_192 (qO S15_192 66 0) 3) : Int) = (qN S6_165 (qO S6_165 (qO S6_165 66 0) 3) : Int) := by rw [o194_]; exact f193_.kL (j := 3) y52_ (y52_.ref (y52_.ptr ptrC_39) (y52_.2.1 _ finC_31).2.1) (g.row (y52_.ref (y52_.ptr ptrC_39) (y52_.2.1 _ finC_31).2.1)).1.2.2.1 (by decide) (by decide)
                  have t204_ : (qN S15_192 (qO S15_192 (qO S15_192 66 0) 5) : Int) = (qN S6_165 (qO S6_165 (qO S6_165 66 0) 5) : Int) := by rw [o194_]; exact f193_.kL (j := 5) y52_ (y52_.ref (y52_.ptr ptrC_39) (y52_.2.1 _ finC_31).2.1) (g.row (y52_.ref (y52_.ptr ptrC_39) (y52_.2.1 _ finC_31).2.1)).1.2.2.2.1 (by decide) (by decide)
                  have g : ShC B S15_192 := ShC.ws y52_ g f193_ (by rw [eS15_192]; rfl) (by rw [eS15_192]; rfl) (by rw [eS15_192]; rfl) rfl rfl
                  unfold w_X9_goThrough_J98
                  intro y59_ y60_ y61_
                  intro a8_205 ea8_205 
                  have ga8_205 := congrArg Int32.toInt ea8_205
                  refine ih10 g ?_ ?_ ?_ ?_
                  · have s206_ := (g.row (y59_.ref (y59_.ptr ptrC_39) (y59_.2.1 _ finC_31).2.1)).2
                    have s207_ := g.smk
                    unfold SmK at s207_
                    have n1_ := rgI a8_205
                    have n2_ := rgI v10_5
                    have n3_ := rgI v10_1
                    have n4_ := rgI (qI U10 (qO U10 66 0) 2)
                    have n5_ := rgI v10_4
                    have n6_ := rgI v10_3
                    have n7_ := rgI r5_165
                    have n9_ := lo_1k
                    have n9_ := t_addD (a := v10_5) (b := Int32.ofInt 1)
                    have n10_ := rgI (v10_5 + Int32.ofInt 1)
                    omega
                  · have s208_ := (g.row (y59_.ref (y59_.ptr ptrC_39) (y59_.2.1 _ finC_31).2.1)).2
                    have s209_ := g.smk
                    unfold SmK at s209_
                    have n1_ := rgI v10_1
                    have n2_ := rgI v10_5
                    have n3_ := rgI (qI U10 (qO U10 66 0) 2)
                    have n4_ := rgI v10_4
                    have n5_ := rgI v10_3
                    have n6_ := rgI r5_165
                    have n7_ := rgI a8_205
                    have n9_ := lo_1k
                    have n9_ := t_addD (a := v10_5) (b := Int32.ofInt 1)
                    have n10_ := rgI (v10_5 + Int32.ofInt 1)
                    omega
                  · have s210_ := (g.row (y59_.ref (y59_.ptr ptrC_39) (y59_.2.1 _ finC_31).2.1)).2
                    have s211_ := g.smk
                    unfold SmK at s211_
                    have n1_ := rgI v10_1
                    have n2_ := rgI v10_5
                    have n3_ := rgI (qI U10 (qO U10 66 0) 2)
                    have n4_ := rgI v10_4
                    have n5_ := rgI v10_3
                    have n6_ := rgI r5_165
                    have n7_ := rgI a8_205
                    have n9_ := lo_1k
                    have n9_ := t_addD (a := v10_5) (b := Int32.ofInt 1)
                    have n10_ := rgI (v10_5 + Int32.ofInt 1)
                    omega
                  · have s212_ := (g.row (y59_.ref (y59_.ptr ptrC_39) (y59_.2.1 _ finC_31).2.1)).2
                    have s213_ := g.smk
                    unfold SmK at s213_
                    have n1_ := rgI a8_205
                    have n2_ := rgI v10_5
                    have n3_ := rgI v10_1
                    have n4_ := rgI (qI U10 (qO U10 66 0) 2)
                    have n5_ := rgI v10_4
                    have n6_ := rgI v10_3
                    have n7_ := rgI r5_165
                    have n9_ := lo_1k
                    have n9_ := t_addD (a := v10_5) (b := Int32.ofInt 1)
                    have n10_ := rgI (v10_5 + Int32.ofInt 1)
                    omega
        · refine ⟨fun c214_ => ?_, fun c214_ => ?_⟩
          · unfold w_X9_goThrough_J45
            intro y62_ y63_ y64_
            refine ⟨_, frX9_findLive y62_ (sgX9_findLive y62_ g), ?_⟩
            intro S24_215 q65_ y66_ y67_
            have o216_ : qO S24_215 66 0 = qO U10 66 0 := qO_eq (q65_.2.kO (y62_.2.1 _ finC_31).2.1 (by decide) (by decide))
            have t217_ : (qI S24_215 (qO S24_215 66 0) 4).toInt = (qI U10 (qO U10 66 0) 4).toInt := by rw [o216_]; exact congrArg Int32.toInt (q65_.2.kI (j := 4) (y62_.ref (y62_.ptr ptrC_39) (y62_.2.1 _ finC_31).2.1) (by decide) (by decide))
            have t218_ : (qI S24_215 (qO S24_215 66 0) 9).toInt = (qI U10 (qO U10 66 0) 9).toInt := by rw [o216_]; exact congrArg Int32.toInt (q65_.2.kI (j := 9) (y62_.ref (y62_.ptr ptrC_39) (y62_.2.1 _ finC_31).2.1) (by decide) (by decide))
            have t219_ : (qI S24_215 (qO S24_215 66 0) 2).toInt = (qI U10 (qO U10 66 0) 2).toInt := by rw [o216_]; exact congrArg Int32.toInt (q65_.2.kI (j := 2) (y62_.ref (y62_.ptr ptrC_39) (y62_.2.1 _ finC_31).2.1) (by decide) (by decide))
            have t220_ : (qN S24_215 (qO S24_215 (qO S24_215 66 0) 1) : Int) = (qN U10 (qO U10 (qO U10 66 0) 1) : Int) := by rw [o216_]; exact q65_.2.kL (j := 1) y62_ (y62_.ref (y62_.ptr ptrC_39) (y62_.2.1 _ finC_31).2.1) (g.row (y62_.ref (y62_.ptr ptrC_39) (y62_.2.1 _ finC_31).2.1)).1.2.1 (by decide) (by decide)
            have t221_ : (qN S24_215 (qO S24_215 (qO S24_215 66 0) 8) : Int) = (qN U10 (qO U10 (qO U10 66 0) 8) : Int) := by rw [o216_]; exact q65_.2.kL (j := 8) y62_ (y62_.ref (y62_.ptr ptrC_39) (y62_.2.1 _ finC_31).2.1) (g.row (y62_.ref (y62_.ptr ptrC_39) (y62_.2.1 _ finC_31).2.1)).1.2.2.2.2.2.2 (by decide) (by decide)
            have t222_ : (qN S24_215 (qO S24_215 (qO S24_215 66 0) 7) : Int) = (qN U10 (qO U10 (qO U10 66 0) 7) : Int) := by rw [o216_]; exact q65_.2.kL (j := 7) y62_ (y62_.ref (y62_.ptr ptrC_39) (y62_.2.1 _ finC_31).2.1) (g.row (y62_.ref (y62_.ptr ptrC_39) (y62_.2.1 _ finC_31).2.1)).1.2.2.2.2.2.1 (by decide) (by decide)
            have t223_ : (qN S24_215 (qO S24_215 (qO S24_215 66 0) 0) : Int) = (qN U10 (qO U10 (qO U10 66 0) 0) : Int) := by rw [o216_]; exact q65_.2.kL (j := 0) y62_ (y62_.ref (y62_.ptr ptrC_39) (y62_.2.1 _ finC_31).2.1) (g.row (y62_.ref (y62_.ptr ptrC_39) (y62_.2.1 _ finC_31).2.1)).1.1 (by decide) (by decide)
            have t224_ : (qN S24_215 (qO S24_215 (qO S24_215 66 0) 6) : Int) = (qN U10 (qO U10 (qO U10 66 0) 6) : Int) := by rw [o216_]; exact q65_.2.kL (j := 6) y62_ (y62_.ref (y62_.ptr ptrC_39) (y62_.2.1 _ finC_31).2.1) (g.row (y62_.ref (y62_.ptr ptrC_39) (y62_.2.1 _ finC_31).2.1)).1.2.2.2.2.1 (by decide) (by decide)
            have t225_ : (qN S24_215 (qO S24_215 (qO S24_215 66 0) 3) : Int) = (qN U10 (qO U10 (qO U10 66 0) 3) : Int) := by rw [o216_]; exact q65_.2.kL (j := 3) y62_ (y62_.ref (y62_.ptr ptrC_39) (y62_.2.1 _ finC_31).2.1) (g.row (y62_.ref (y62_.ptr ptrC_39) (y62_.2.1 _ finC_31).2.1)).1.2.2.1 (by decide) (by decide)
            have t226_ : (qN S24_215 (qO S24_215 (qO S24_215 66 0) 5) : Int) = (qN U10 (qO U10 (qO U10 66 0) 5) : Int) := by rw [o216_]; exact q65_.2.kL (j := 5) y62_ (y62_.ref (y62_.ptr ptrC_39) (y62_.2.1 _ finC_31).2.1) (g.row (y62_.ref (y62_.ptr ptrC_39) (y62_.2.1 _ finC_31).2.1)).1.2.2.2.1 (by decide) (by decide)
            have g : ShC B S24_215 := q65_.1.1
            unfold w_X9_goThrough_J49
            intro y68_ y69_ y70_
            refine ⟨fun c227_ => ?_, fun c227_ => ?_⟩
            · unfold w_X9_goThrough_J68
              intro y71_ y72_
              refine ⟨_, frX9_isDone y71_ (sgX9_isDone y71_ g (by have s229_ := (g.row (y71_.ref (y71_.ptr ptrC_39) (y71_.2.1 _ finC_31).2.1)).2; have s230_ := g.smk; unfold SmK at s230_; have n1_ := rgI v10_4; have n2_ := rgI v10_5; have n3_ := rgI v10_1; have n4_ := rgI (qI U10 (qO U10 66 0) 2); have n5_ := rgI v10_3; omega)), ?_⟩
              intro r5_228 S6_228 q73_ y74_ y75_
              have o231_ : qO S6_228 66 0 = qO S24_215 66 0 := qO_eq (q73_.2.kO (y71_.2.1 _ finC_31).2.1 (by decide) (by decide))
              have t232_ : (qI S6_228 (qO S6_228 66 0) 4).toInt = (qI S24_215 (qO S24_215 66 0) 4).toInt := by rw [o231_]; exact congrArg Int32.toInt (q73_.2.kI (j := 4) (y71_.ref (y71_.ptr ptrC_39) (y71_.2.1 _ finC_31).2.1) (by decide) (by decide))
              have t233_ : (qN S6_228 (qO S6_228 (qO S6_228 66 0) 1) : Int) = (qN S24_215 (qO S24_215 (qO S24_215 66 0) 1) : Int) := by rw [o231_]; exact q73_.2.kL (j := 1) y71_ (y71_.ref (y71_.ptr ptrC_39) (y71_.2.1 _ finC_31).2.1) (g.row (y71_.ref (y71_.ptr ptrC_39) (y71_.2.1 _ finC_31).2.1)).1.2.1 (by decide) (by decide)
              have t234_ : (qN S6_228 (qO S6_228 (qO S6_228 66 0) 8) : Int) = (qN S24_215 (qO S24_215 (qO S24_215 66 0) 8) : Int) := by rw [o231_]; exact q73_.2.kL (j := 8) y71_ (y71_.ref (y71_.ptr ptrC_39) (y71_.2.1 _ finC_31).2.1) (g.row (y71_.ref (y71_.ptr ptrC_39) (y71_.2.1 _ finC_31).2.1)).1.2.2.2.2.2.2 (by decide) (by decide)
              have t235_ : (qN S6_228 (qO S6_228 (qO S6_228 66 0) 7) : Int) = (qN S24_215 (qO S24_215 (qO S24_215 66 0) 7) : Int) := by rw [o231_]; exact q73_.2.kL (j := 7) y71_ (y71_.ref (y71_.ptr ptrC_39) (y71_.2.1 _ finC_31).2.1) (g.row (y71_.ref (y71_.ptr ptrC_39) (y71_.2.1 _ finC_31).2.1)).1.2.2.2.2.2.1 (by decide) (by decide)
              have t236_ : (qN S6_228 (qO S6_228 (qO S6_228 66 0) 0) : Int) = (qN S24_215 (qO S24_215 (qO S24_215 66 0) 0) : Int) := by rw [o231_]; exact q73_.2.kL (j := 0) y71_ (y71_.ref (y71_.ptr ptrC_39) (y71_.2.1 _ finC_31).2.1) (g.row (y71_.ref (y71_.ptr ptrC_39) (y71_.2.1 _ finC_31).2.1)).1.1 (by decide) (by decide)
              have t237_ : (qN S6_228 (qO S6_228 (qO S6_228 66 0) 6) : Int) = (qN S24_215 (qO S24_215 (qO S24_215 66 0) 6) : Int) := by rw [o231_]; exact q73_.2.kL (j := 6) y71_ (y71_.ref (y71_.ptr ptrC_39) (y71_.2.1 _ finC_31).2.1) (g.row (y71_.ref (y71_.ptr ptrC_39) (y71_.2.1 _ finC_31).2.1)).1.2.2.2.2.1 (by decide) (by decide)
              have t238_ : (qN S6_228 (qO S6_228 (qO S6_228 66 0) 3) : Int) = (qN S24_215 (qO S24_215 (qO S24_215 66 0) 3) : Int) := by rw [o231_]; exact q73_.2.kL (j := 3) y71_ (y71_.ref (y71_.ptr ptrC_39) (y71_.2.1 _ finC_31).2.1) (g.row (y71_.ref (y71_.ptr ptrC_39) (y71_.2.1 _ finC_31).2.1)).1.2.2.1 (by decide) (by decide)
              have t239_ : (qN S6_228 (qO S6_228 (qO S6_228 66 0) 5) : Int) = (qN S24_215 (qO S24_215 (qO S24_215 66 0) 5) : Int) := by rw [o231_]; exact q73_.2.kL (j := 5) y71_ (y71_.ref (y71_.ptr ptrC_39) (y71_.2.1 _ finC_31).2.1) (g.row (y71_.ref (y71_.ptr ptrC_39) (y71_.2.1 _ finC_31).2.1)).1.2.2.2.1 (by decide) (by decide)
              have g : ShC B S6_228 := q73_.1.1
              refine ⟨fun c240_ => ?_, fun c240_ => ?_⟩
              · intro a10_241 ea10_241 
                have ga10_241 := congrArg Int32.toInt ea10_241
                unfold w_X9_goThrough_J98
                intro y76_ y77_ y78_
                intro a8_242 ea8_242 
                have ga8_242 := congrArg Int32.toInt ea8_242
                refine ih10 g ?_ ?_ ?_ ?_
                · have s243_ := (g.row (y76_.ref (y76_.ptr ptrC_39) (y76_.2.1 _ finC_31).2.1)).2
                  have s244_ := g.smk
                  unfold SmK at s244_
                  have n1_ := rgI a8_242
                  have n2_ := rgI v10_5
                  have n3_ := rgI v10_1
                  have n4_ := rgI (qI U10 (qO U10 66 0) 2)
                  have n5_ := rgI v10_4
                  have n6_ := rgI v10_3
                  have n7_ := rgI r5_228
                  have n8_ := rgI a10_241
                  have n10_ := lo_1k
                  have n10_ := t_addD (a := v10_4) (b := Int32.ofInt 1)
                  have n11_ := rgI (v10_4 + Int32.ofInt 1)
                  have n12_ := t_addD (a := v10_5) (b := Int32.ofInt 1)
                  have n13_ := rgI (v10_5 + Int32.ofInt 1)
                  omega
                · have s245_ := (g.row (y76_.ref (y76_.ptr ptrC_39) (y76_.2.1 _ finC_31).2.1)).2
                  have s246_ := g.smk
                  unfold SmK at s246_
                  have n1_ := rgI v10_1
                  have n2_ := rgI v10_5
                  have n3_ := rgI (qI U10 (qO U10 66 0) 2)
                  have n4_ := rgI v10_4
                  have n5_ := rgI v10_3
                  have n6_ := rgI r5_228
                  have n7_ := rgI a10_241
                  have n9_ := lo_1k
                  have n9_ := t_addD (a := v10_4) (b := Int32.ofInt 1)
                  have n10_ := rgI (v10_4 + Int32.ofInt 1)
                  have n11_ := rgI a8_242
                  have n12_ := t_addD (a := v10_5) (b := Int32.ofInt 1)
                  have n13_ := rgI (v10_5 + Int32.ofInt 1)
                  omega
                · have s247_ := (g.row (y76_.ref (y76_.ptr ptrC_39) (y76_.2.1 _ finC_31).2.1)).2
                  have s248_ := g.smk
                  unfold SmK at s248_
                  have n1_ := rgI v10_1
                  have n2_ := rgI v10_5
                  have n3_ := rgI (qI U10 (qO U10 66 0) 2)
                  have n4_ := rgI v10_4
                  have n5_ := rgI v10_3
                  have n6_ := rgI r5_228
                  have n7_ := rgI a10_241
                  have n9_ := lo_1k
                  have n9_ := t_addD (a := v10_4) (b := Int32.ofInt 1)
                  have n10_ := rgI (v10_4 + Int32.ofInt 1)
                  have n11_ := rgI a8_242
                  have n12_ := t_addD (a := v10_5) (b := Int32.ofInt 1)
                  have n13_ := rgI (v10_5 + Int32.ofInt 1)
                  omega
                · have s249_ := (g.row (y76_.ref (y76_.ptr ptrC_39) (y76_.2.1 _ finC_31).2.1)).2
                  have s250_ := g.smk
                  unfold SmK at s250_
                  have n1_ := rgI a8_242
                  have n2_ := rgI v10_5
                  have n3_ := rgI v10_1
                  have n4_ := rgI (qI U10 (qO U10 66 0) 2)
                  have n5_ := rgI v10_4
                  have n6_ := rgI v10_3
                  have n7_ := rgI r5_228
                  have n8_ := rgI a10_241
                  have n10_ := lo_1k
                  have n10_ := t_addD (a := v10_4) (b := Int32.ofInt 1)
                  have n11_ := rgI (v10_4 + Int32.ofInt 1)
                  have n12_ := t_addD (a := v10_5) (b := Int32.ofInt 1)
                  have n13_ := rgI (v10_5 + Int32.ofInt 1)
                  omega
              · refine ⟨?_, ?_⟩
                · have s251_ := (g.row (y74_.ref (y74_.ptr ptrC_39) (y74_.2.1 _ finC_31).2.1)).2
                  have s252_ := g.smk
                  unfold SmK at s252_
                  have n1_ := rgI v10_1
                  have n2_ := rgI v10_5
                  have n3_ := rgI (qI U10 (qO U10 66 0) 2)
                  have n4_ := rgI v10_4
                  have n5_ := rgI v10_3
                  have n6_ := rgI r5_228
                  omega
                refine ⟨?_, ?_⟩
                · have s253_ := (g.row (y74_.ref (y74_.ptr ptrC_39) (y74_.2.1 _ finC_31).2.1)).2
                  have s254_ := g.smk
                  unfold SmK at s254_
                  have n1_ := rgI v10_1
                  have n2_ := rgI v10_5
                  have n3_ := rgI (qI U10 (qO U10 66 0) 2)
                  have n4_ := rgI v10_4
                  have n5_ := rgI v10_3
                  have n6_ := rgI r5_228
                  omega
                intro S15_255 eS15_255 y79_ y80_
                have f256_ : cfr [228] [] S6_228 S15_255 := by rw [eS15_255]; exact cfr.aI y79_ (by decide)
                have o257_ : qO S15_255 66 0 = qO S6_228 66 0 := qO_eq (f256_.kO (y74_.2.1 _ finC_31).2.1 (by decide) (by decide))
                have t258_ : (qI S15_255 (qO S15_255 66 0) 4).toInt = (qI S6_228 (qO S6_228 66 0) 4).toInt := by rw [o257_]; exact congrArg Int32.toInt (f256_.kI (j := 4) (y74_.ref (y74_.ptr ptrC_39) (y74_.2.1 _ finC_31).2.1) (by decide) (by decide))
                have t259_ : (qI S15_255 (qO S15_255 66 0) 9).toInt = (qI S6_228 (qO S6_228 66 0) 9).toInt := by rw [o257_]; exact congrArg Int32.toInt (f256_.kI (j := 9) (y74_.ref (y74_.ptr ptrC_39) (y74_.2.1 _ finC_31).2.1) (by decide) (by decide))
                have t260_ : (qI S15_255 (qO S15_255 66 0) 2).toInt = (qI S6_228 (qO S6_228 66 0) 2).toInt := by rw [o257_]; exact congrArg Int32.toInt (f256_.kI (j := 2) (y74_.ref (y74_.ptr ptrC_39) (y74_.2.1 _ finC_31).2.1) (by decide) (by decide))
                have t261_ : (qN S15_255 (qO S15_255 (qO S15_255 66 0) 1) : Int) = (qN S6_228 (qO S6_228 (qO S6_228 66 0) 1) : Int) := by rw [o257_]; exact f256_.kL (j := 1) y74_ (y74_.ref (y74_.ptr ptrC_39) (y74_.2.1 _ finC_31).2.1) (g.row (y74_.ref (y74_.ptr ptrC_39) (y74_.2.1 _ finC_31).2.1)).1.2.1 (by decide) (by decide)
                have t262_ : (qN S15_255 (qO S15_255 (qO S15_255 66 0) 8) : Int) = (qN S6_228 (qO S6_228 (qO S6_228 66 0) 8) : Int) := by rw [o257_]; exact f256_.kL (j := 8) y74_ (y74_.ref (y74_.ptr ptrC_39) (y74_.2.1 _ finC_31).2.1) (g.row (y74_.ref (y74_.ptr ptrC_39) (y74_.2.1 _ finC_31).2.1)).1.2.2.2.2.2.2 (by decide) (by decide)
                have t263_ : (qN S15_255 (qO S15_255 (qO S15_255 66 0) 7) : Int) = (qN S6_228 (qO S6_228 (qO S6_228 66 0) 7) : Int) := by rw [o257_]; exact f256_.kL (j := 7) y74_ (y74_.ref (y74_.ptr ptrC_39) (y74_.2.1 _ finC_31).2.1) (g.row (y74_.ref (y74_.ptr ptrC_39) (y74_.2.1 _ finC_31).2.1)).1.2.2.2.2.2.1 (by decide) (by decide)
                have t264_ : (qN S15_255 (qO S15_255 (qO S15_255 66 0) 0) : Int) = (qN S6_228 (qO S6_228 (qO S6_228 66 0) 0) : Int) := by rw [o257_]; exact f256_.kL (j := 0) y74_ (y74_.ref (y74_.ptr ptrC_39) (y74_.2.1 _ finC_31).2.1) (g.row (y74_.ref (y74_.ptr ptrC_39) (y74_.2.1 _ finC_31).2.1)).1.1 (by decide) (by decide)
                have t265_ : (qN S15_255 (qO S15_255 (qO S15_255 66 0) 6) : Int) = (qN S6_228 (qO S6_228 (qO S6_228 66 0) 6) : Int) := by rw [o257_]; exact f256_.kL (j := 6) y74_ (y74_.ref (y74_.ptr ptrC_39) (y74_.2.1 _ finC_31).2.1) (g.row (y74_.ref (y74_.ptr ptrC_39) (y74_.2.1 _ finC_31).2.1)).1.2.2.2.2.1 (by decide) (by decide)
                have t266_ : (qN S15_255 (qO S15_255 (qO S15_255 66 0) 3) : Int) = (qN S6_228 (qO S6_228 (qO S6_228 66 0) 3) : Int) := by rw [o257_]; exact f256_.kL (j := 3) y74_ (y74_.ref (y74_.ptr ptrC_39) (y74_.2.1 _ finC_31).2.1) (g.row (y74_.ref (y74_.ptr ptrC_39) (y74_.2.1 _ finC_31).2.1)).1.2.2.1 (by decide) (by decide)
                have t267_ : (qN S15_255 (qO S15_255 (qO S15_255 66 0) 5) : Int) = (qN S6_228 (qO S6_228 (qO S6_228 66 0) 5) : Int) := by rw [o257_]; exact f256_.kL (j := 5) y74_ (y74_.ref (y74_.ptr ptrC_39) (y74_.2.1 _ finC_31).2.1) (g.row (y74_.ref (y74_.ptr ptrC_39) (y74_.2.1 _ finC_31).2.1)).1.2.2.2.1 (by decide) (by decide)
                have g : ShC B S15_255 := ShC.ws y74_ g f256_ (by rw [eS15_255]; rfl) (by rw [eS15_255]; rfl) (by rw [eS15_255]; rfl) rfl rfl
                unfold w_X9_goThrough_J98
                intro y81_ y82_ y83_
                intro a8_268 ea8_268 
                have ga8_268 := congrArg Int32.toInt ea8_268
                refine ih10 g ?_ ?_ ?_ ?_
                · have s269_ := (g.row (y81_.ref (y81_.ptr ptrC_39) (y81_.2.1 _ finC_31).2.1)).2
                  have s270_ := g.smk
                  unfold SmK at s270_
                  have n1_ := rgI a8_268
                  have n2_ := rgI v10_5
                  have n3_ := rgI v10_1
                  have n4_ := rgI (qI U10 (qO U10 66 0) 2)
                  have n5_ := rgI v10_4
                  have n6_ := rgI v10_3
                  have n7_ := rgI r5_228
                  have n9_ := lo_1k
                  have n9_ := t_addD (a := v10_5) (b := Int32.ofInt 1)
                  have n10_ := rgI (v10_5 + Int32.ofInt 1)
                  omega
                · have s271_ := (g.row (y81_.ref (y81_.ptr ptrC_39) (y81_.2.1 _ finC_31).2.1)).2
                  have s272_ := g.smk
                  unfold SmK at s272_
                  have n1_ := rgI v10_1
                  have n2_ := rgI v10_5
                  have n3_ := rgI (qI U10 (qO U10 66 0) 2)
                  have n4_ := rgI v10_4
                  have n5_ := rgI v10_3
                  have n6_ := rgI r5_228
                  have n7_ := rgI a8_268
                  have n9_ := lo_1k
                  have n9_ := t_addD (a := v10_5) (b := Int32.ofInt 1)
                  have n10_ := rgI (v10_5 + Int32.ofInt 1)
                  omega
                · have s273_ := (g.row (y81_.ref (y81_.ptr ptrC_39) (y81_.2.1 _ finC_31).2.1)).2
                  have s274_ := g.smk
                  unfold SmK at s274_
                  have n1_ := rgI v10_1
                  have n2_ := rgI v10_5
                  have n3_ := rgI (qI U10 (qO U10 66 0) 2)
                  have n4_ := rgI v10_4
                  have n5_ := rgI v10_3
                  have n6_ := rgI r5_228
                  have n7_ := rgI a8_268
                  have n9_ := lo_1k
                  have n9_ := t_addD (a := v10_5) (b := Int32.ofInt 1)
                  have n10_ := rgI (v10_5 + Int32.ofInt 1)
                  omega
                · have s275_ := (g.row (y81_.ref (y81_.ptr ptrC_39) (y81_.2.1 _ finC_31).2.1)).2
                  have s276_ := g.smk
                  unfold SmK at s276_
                  have n1_ := rgI a8_268
                  have n2_ := rgI v10_5
                  have n3_ := rgI v10_1
                  have n4_ := rgI (qI U10 (qO U10 66 0) 2)
                  have n5_ := rgI v10_4
                  have n6_ := rgI v10_3
                  have n7_ := rgI r5_228
                  have n9_ := lo_1k
                  have n9_ := t_addD (a := v10_5) (b := Int32.ofInt 1)
                  have n10_ := rgI (v10_5 + Int32.ofInt 1)
                  omega
            · refine ⟨fun c277_ => ?_, fun c277_ => ?_⟩
              · unfold w_X9_goThrough_J68
                intro y84_ y85_
                refine ⟨_, frX9_isDone y84_ (sgX9_isDone y84_ g (by have s279_ := (g.row (y84_.ref (y84_.ptr ptrC_39) (y84_.2.1 _ finC_31).2.1)).2; have s280_ := g.smk; unfold SmK at s280_; have n1_ := rgI v10_4; have n2_ := rgI v10_5; have n3_ := rgI v10_1; have n4_ := rgI (qI U10 (qO U10 66 0) 2); have n5_ := rgI v10_3; omega)), ?_⟩
                intro r5_278 S6_278 q86_ y87_ y88_
                have o281_ : qO S6_278 66 0 = qO S24_215 66 0 := qO_eq (q86_.2.kO (y84_.2.1 _ finC_31).2.1 (by decide) (by decide))
                have t282_ : (qI S6_278 (qO S6_278 66 0) 4).toInt = (qI S24_215 (qO S24_215 66 0) 4).toInt := by rw [o281_]; exact congrArg Int32.toInt (q86_.2.kI (j := 4) (y84_.ref (y84_.ptr ptrC_39) (y84_.2.1 _ finC_31).2.1) (by decide) (by decide))
                have t283_ : (qN S6_278 (qO S6_278 (qO S6_278 66 0) 1) : Int) = (qN S24_215 (qO S24_215 (qO S24_215 66 0) 1) : Int) := by rw [o281_]; exact q86_.2.kL (j := 1) y84_ (y84_.ref (y84_.ptr ptrC_39) (y84_.2.1 _ finC_31).2.1) (g.row (y84_.ref (y84_.ptr ptrC_39) (y84_.2.1 _ finC_31).2.1)).1.2.1 (by decide) (by decide)
                have t284_ : (qN S6_278 (qO S6_278 (qO S6_278 66 0) 8) : Int) = (qN S24_215 (qO S24_215 (qO S24_215 66 0) 8) : Int) := by rw [o281_]; exact q86_.2.kL (j := 8) y84_ (y84_.ref (y84_.ptr ptrC_39) (y84_.2.1 _ finC_31).2.1) (g.row (y84_.ref (y84_.ptr ptrC_39) (y84_.2.1 _ finC_31).2.1)).1.2.2.2.2.2.2 (by decide) (by decide)
                have t285_ : (qN S6_278 (qO S6_278 (qO S6_278 66 0) 7) : Int) = (qN S24_215 (qO S24_215 (qO S24_215 66 0) 7) : Int) := by rw [o281_]; exact q86_.2.kL (j := 7) y84_ (y84_.ref (y84_.ptr ptrC_39) (y84_.2.1 _ finC_31).2.1) (g.row (y84_.ref (y84_.ptr ptrC_39) (y84_.2.1 _ finC_31).2.1)).1.2.2.2.2.2.1 (by decide) (by decide)
                have t286_ : (qN S6_278 (qO S6_278 (qO S6_278 66 0) 0) : Int) = (qN S24_215 (qO S24_215 (qO S24_215 66 0) 0) : Int) := by rw [o281_]; exact q86_.2.kL (j := 0) y84_ (y84_.ref (y84_.ptr ptrC_39) (y84_.2.1 _ finC_31).2.1) (g.row (y84_.ref (y84_.ptr ptrC_39) (y84_.2.1 _ finC_31).2.1)).1.1 (by decide) (by decide)
                have t287_ : (qN S6_278 (qO S6_278 (qO S6_278 66 0) 6) : Int) = (qN S24_215 (qO S24_215 (qO S24_215 66 0) 6) : Int) := by rw [o281_]; exact q86_.2.kL (j := 6) y84_ (y84_.ref (y84_.ptr ptrC_39) (y84_.2.1 _ finC_31).2.1) (g.row (y84_.ref (y84_.ptr ptrC_39) (y84_.2.1 _ finC_31).2.1)).1.2.2.2.2.1 (by decide) (by decide)
                have t288_ : (qN S6_278 (qO S6_278 (qO S6_278 66 0) 3) : Int) = (qN S24_215 (qO S24_215 (qO S24_215 66 0) 3) : Int) := by rw [o281_]; exact q86_.2.kL (j := 3) y84_ (y84_.ref (y84_.ptr ptrC_39) (y84_.2.1 _ finC_31).2.1) (g.row (y84_.ref (y84_.ptr ptrC_39) (y84_.2.1 _ finC_31).2.1)).1.2.2.1 (by decide) (by decide)
                have t289_ : (qN S6_278 (qO S6_278 (qO S6_278 66 0) 5) : Int) = (qN S24_215 (qO S24_215 (qO S24_215 66 0) 5) : Int) := by rw [o281_]; exact q86_.2.kL (j := 5) y84_ (y84_.ref (y84_.ptr ptrC_39) (y84_.2.1 _ finC_31).2.1) (g.row (y84_.ref (y84_.ptr ptrC_39) (y84_.2.1 _ finC_31).2.1)).1.2.2.2.1 (by decide) (by decide)
                have g : ShC B S6_278 := q86_.1.1
                refine ⟨fun c290_ => ?_, fun c290_ => ?_⟩
                · intro a10_291 ea10_291 
                  have ga10_291 := congrArg Int32.toInt ea10_291
                  unfold w_X9_goThrough_J98
                  intro y89_ y90_ y91_
                  intro a8_292 ea8_292 
                  have ga8_292 := congrArg Int32.toInt ea8_292
                  refine ih10 g ?_ ?_ ?_ ?_
                  · have s293_ := (g.row (y89_.ref (y89_.ptr ptrC_39) (y89_.2.1 _ finC_31).2.1)).2
                    have s294_ := g.smk
                    unfold SmK at s294_
                    have n1_ := rgI a8_292
                    have n2_ := rgI v10_5
                    have n3_ := rgI v10_1
                    have n4_ := rgI (qI U10 (qO U10 66 0) 2)
                    have n5_ := rgI v10_4
                    have n6_ := rgI v10_3
                    have n7_ := rgI r5_278
                    have n8_ := rgI a10_291
                    have n10_ := lo_1k
                    have n10_ := t_addD (a := v10_4) (b := Int32.ofInt 1)
                    have n11_ := rgI (v10_4 + Int32.ofInt 1)
                    have n12_ := t_addD (a := v10_5) (b := Int32.ofInt 1)
                    have n13_ := rgI (v10_5 + Int32.ofInt 1)
                    omega
                  · have s295_ := (g.row (y89_.ref (y89_.ptr ptrC_39) (y89_.2.1 _ finC_31).2.1)).2
                    have s296_ := g.smk
                    unfold SmK at s296_
                    have n1_ := rgI v10_1
                    have n2_ := rgI v10_5
                    have n3_ := rgI (qI U10 (qO U10 66 0) 2)
                    have n4_ := rgI v10_4
                    have n5_ := rgI v10_3
                    have n6_ := rgI r5_278
                    have n7_ := rgI a10_291
                    have n9_ := lo_1k
                    have n9_ := t_addD (a := v10_4) (b := Int32.ofInt 1)
                    have n10_ := rgI (v10_4 + Int32.ofInt 1)
                    have n11_ := rgI a8_292
                    have n12_ := t_addD (a := v10_5) (b := Int32.ofInt 1)
                    have n13_ := rgI (v10_5 + Int32.ofInt 1)
                    omega
                  · have s297_ := (g.row (y89_.ref (y89_.ptr ptrC_39) (y89_.2.1 _ finC_31).2.1)).2
                    have s298_ := g.smk
                    unfold SmK at s298_
                    have n1_ := rgI v10_1
                    have n2_ := rgI v10_5
                    have n3_ := rgI (qI U10 (qO U10 66 0) 2)
                    have n4_ := rgI v10_4
                    have n5_ := rgI v10_3
                    have n6_ := rgI r5_278
                    have n7_ := rgI a10_291
                    have n9_ := lo_1k
                    have n9_ := t_addD (a := v10_4) (b := Int32.ofInt 1)
                    have n10_ := rgI (v10_4 + Int32.ofInt 1)
                    have n11_ := rgI a8_292
                    have n12_ := t_addD (a := v10_5) (b := Int32.ofInt 1)
                    have n13_ := rgI (v10_5 + Int32.ofInt 1)
                    omega
                  · have s299_ := (g.row (y89_.ref (y89_.ptr ptrC_39) (y89_.2.1 _ finC_31).2.1)).2
                    have s300_ := g.smk
                    unfold SmK at s300_
                    have n1_ := rgI a8_292
                    have n2_ := rgI v10_5
                    have n3_ := rgI v10_1
                    have n4_ := rgI (qI U10 (qO U10 66 0) 2)
                    have n5_ := rgI v10_4
                    have n6_ := rgI v10_3
                    have n7_ := rgI r5_278
                    have n8_ := rgI a10_291
                    have n10_ := lo_1k
                    have n10_ := t_addD (a := v10_4) (b := Int32.ofInt 1)
                    have n11_ := rgI (v10_4 + Int32.ofInt 1)
                    have n12_ := t_addD (a := v10_5) (b := Int32.ofInt 1)
                    have n13_ := rgI (v10_5 + Int32.ofInt 1)
                    omega
                · refine ⟨?_, ?_⟩
                  · have s301_ := (g.row (y87_.ref (y87_.ptr ptrC_39) (y87_.2.1 _ finC_31).2.1)).2
                    have s302_ := g.smk
                    unfold SmK at s302_
                    have n1_ := rgI v10_1
                    have n2_ := rgI v10_5
                    have n3_ := rgI (qI U10 (qO U10 66 0) 2)
                    have n4_ := rgI v10_4
                    have n5_ := rgI v10_3
                    have n6_ := rgI r5_278
                    omega
                  refine ⟨?_, ?_⟩
                  · have s303_ := (g.row (y87_.ref (y87_.ptr ptrC_39) (y87_.2.1 _ finC_31).2.1)).2
                    have s304_ := g.smk
                    unfold SmK at s304_
                    have n1_ := rgI v10_1
                    have n2_ := rgI v10_5
                    have n3_ := rgI (qI U10 (qO U10 66 0) 2)
                    have n4_ := rgI v10_4
                    have n5_ := rgI v10_3
                    have n6_ := rgI r5_278
                    omega
                  intro S15_305 eS15_305 y92_ y93_
                  have f306_ : cfr [228] [] S6_278 S15_305 := by rw [eS15_305]; exact cfr.aI y92_ (by decide)
                  have o307_ : qO S15_305 66 0 = qO S6_278 66 0 := qO_eq (f306_.kO (y87_.2.1 _ finC_31).2.1 (by decide) (by decide))
                  have t308_ : (qI S15_305 (qO S15_305 66 0) 4).toInt = (qI S6_278 (qO S6_278 66 0) 4).toInt := by rw [o307_]; exact congrArg Int32.toInt (f306_.kI (j := 4) (y87_.ref (y87_.ptr ptrC_39) (y87_.2.1 _ finC_31).2.1) (by decide) (by decide))
                  have t309_ : (qI S15_305 (qO S15_305 66 0) 9).toInt = (qI S6_278 (qO S6_278 66 0) 9).toInt := by rw [o307_]; exact congrArg Int32.toInt (f306_.kI (j := 9) (y87_.ref (y87_.ptr ptrC_39) (y87_.2.1 _ finC_31).2.1) (by decide) (by decide))
                  have t310_ : (qI S15_305 (qO S15_305 66 0) 2).toInt = (qI S6_278 (qO S6_278 66 0) 2).toInt := by rw [o307_]; exact congrArg Int32.toInt (f306_.kI (j := 2) (y87_.ref (y87_.ptr ptrC_39) (y87_.2.1 _ finC_31).2.1) (by decide) (by decide))
                  have t311_ : (qN S15_305 (qO S15_305 (qO S15_305 66 0) 1) : Int) = (qN S6_278 (qO S6_278 (qO S6_278 66 0) 1) : Int) := by rw [o307_]; exact f306_.kL (j := 1) y87_ (y87_.ref (y87_.ptr ptrC_39) (y87_.2.1 _ finC_31).2.1) (g.row (y87_.ref (y87_.ptr ptrC_39) (y87_.2.1 _ finC_31).2.1)).1.2.1 (by decide) (by decide)
                  have t312_ : (qN S15_305 (qO S15_305 (qO S15_305 66 0) 8) : Int) = (qN S6_278 (qO S6_278 (qO S6_278 66 0) 8) : Int) := by rw [o307_]; exact f306_.kL (j := 8) y87_ (y87_.ref (y87_.ptr ptrC_39) (y87_.2.1 _ finC_31).2.1) (g.row (y87_.ref (y87_.ptr ptrC_39) (y87_.2.1 _ finC_31).2.1)).1.2.2.2.2.2.2 (by decide) (by decide)
                  have t313_ : (qN S15_305 (qO S15_305 (qO S15_305 66 0) 7) : Int) = (qN S6_278 (qO S6_278 (qO S6_278 66 0) 7) : Int) := by rw [o307_]; exact f306_.kL (j := 7) y87_ (y87_.ref (y87_.ptr ptrC_39) (y87_.2.1 _ finC_31).2.1) (g.row (y87_.ref (y87_.ptr ptrC_39) (y87_.2.1 _ finC_31).2.1)).1.2.2.2.2.2.1 (by decide) (by decide)
                  have t314_ : (qN S15_305 (qO S15_305 (qO S15_305 66 0) 0) : Int) = (qN S6_278 (qO S6_278 (qO S6_278 66 0) 0) : Int) := by rw [o307_]; exact f306_.kL (j := 0) y87_ (y87_.ref (y87_.ptr ptrC_39) (y87_.2.1 _ finC_31).2.1) (g.row (y87_.ref (y87_.ptr ptrC_39) (y87_.2.1 _ finC_31).2.1)).1.1 (by decide) (by decide)
                  have t315_ : (qN S15_305 (qO S15_305 (qO S15_305 66 0) 6) : Int) = (qN S6_278 (qO S6_278 (qO S6_278 66 0) 6) : Int) := by rw [o307_]; exact f306_.kL (j := 6) y87_ (y87_.ref (y87_.ptr ptrC_39) (y87_.2.1 _ finC_31).2.1) (g.row (y87_.ref (y87_.ptr ptrC_39) (y87_.2.1 _ finC_31).2.1)).1.2.2.2.2.1 (by decide) (by decide)
                  have t316_ : (qN S15_305 (qO S15_305 (qO S15_305 66 0) 3) : Int) = (qN S6_278 (qO S6_278 (qO S6_278 66 0) 3) : Int) := by rw [o307_]; exact f306_.kL (j := 3) y87_ (y87_.ref (y87_.ptr ptrC_39) (y87_.2.1 _ finC_31).2.1) (g.row (y87_.ref (y87_.ptr ptrC_39) (y87_.2.1 _ finC_31).2.1)).1.2.2.1 (by decide) (by decide)
                  have t317_ : (qN S15_305 (qO S15_305 (qO S15_305 66 0) 5) : Int) = (qN S6_278 (qO S6_278 (qO S6_278 66 0) 5) : Int) := by rw [o307_]; exact f306_.kL (j := 5) y87_ (y87_.ref (y87_.ptr ptrC_39) (y87_.2.1 _ finC_31).2.1) (g.row (y87_.ref (y87_.ptr ptrC_39) (y87_.2.1 _ finC_31).2.1)).1.2.2.2.1 (by decide) (by decide)
                  have g : ShC B S15_305 := ShC.ws y87_ g f306_ (by rw [eS15_305]; rfl) (by rw [eS15_305]; rfl) (by rw [eS15_305]; rfl) rfl rfl
                  unfold w_X9_goThrough_J98
                  intro y94_ y95_ y96_
                  intro a8_318 ea8_318 
                  have ga8_318 := congrArg Int32.toInt ea8_318
                  refine ih10 g ?_ ?_ ?_ ?_
                  · have s319_ := (g.row (y94_.ref (y94_.ptr ptrC_39) (y94_.2.1 _ finC_31).2.1)).2
                    have s320_ := g.smk
                    unfold SmK at s320_
                    have n1_ := rgI a8_318
                    have n2_ := rgI v10_5
                    have n3_ := rgI v10_1
                    have n4_ := rgI (qI U10 (qO U10 66 0) 2)
                    have n5_ := rgI v10_4
                    have n6_ := rgI v10_3
                    have n7_ := rgI r5_278
                    have n9_ := lo_1k
                    have n9_ := t_addD (a := v10_5) (b := Int32.ofInt 1)
                    have n10_ := rgI (v10_5 + Int32.ofInt 1)
                    omega
                  · have s321_ := (g.row (y94_.ref (y94_.ptr ptrC_39) (y94_.2.1 _ finC_31).2.1)).2
                    have s322_ := g.smk
                    unfold SmK at s322_
                    have n1_ := rgI v10_1
                    have n2_ := rgI v10_5
                    have n3_ := rgI (qI U10 (qO U10 66 0) 2)
                    have n4_ := rgI v10_4
                    have n5_ := rgI v10_3
                    have n6_ := rgI r5_278
                    have n7_ := rgI a8_318
                    have n9_ := lo_1k
                    have n9_ := t_addD (a := v10_5) (b := Int32.ofInt 1)
                    have n10_ := rgI (v10_5 + Int32.ofInt 1)
                    omega
                  · have s323_ := (g.row (y94_.ref (y94_.ptr ptrC_39) (y94_.2.1 _ finC_31).2.1)).2
                    have s324_ := g.smk
                    unfold SmK at s324_
                    have n1_ := rgI v10_1
                    have n2_ := rgI v10_5
                    have n3_ := rgI (qI U10 (qO U10 66 0) 2)
                    have n4_ := rgI v10_4
                    have n5_ := rgI v10_3
                    have n6_ := rgI r5_278
                    have n7_ := rgI a8_318
                    have n9_ := lo_1k
                    have n9_ := t_addD (a := v10_5) (b := Int32.ofInt 1)
                    have n10_ := rgI (v10_5 + Int32.ofInt 1)
                    omega
                  · have s325_ := (g.row (y94_.ref (y94_.ptr ptrC_39) (y94_.2.1 _ finC_31).2.1)).2
                    have s326_ := g.smk
                    unfold SmK at s326_
                    have n1_ := rgI a8_318
                    have n2_ := rgI v10_5
                    have n3_ := rgI v10_1
                    have n4_ := rgI (qI U10 (qO U10 66 0) 2)
                    have n5_ := rgI v10_4
                    have n6_ := rgI v10_3
                    have n7_ := rgI r5_278
                    have n9_ := lo_1k
                    have n9_ := t_addD (a := v10_5) (b := Int32.ofInt 1)
                    have n10_ := rgI (v10_5 + Int32.ofInt 1)
                    omega
              · refine ⟨fun c327_ => ?_, fun c327_ => ?_⟩
                · unfold w_X9_goThrough_J68
                  intro y97_ y98_
                  refine ⟨_, frX9_isDone y97_ (sgX9_isDone y97_ g (by have s329_ := (g.row (y97_.ref (y97_.ptr ptrC_39) (y97_.2.1 _ finC_31).2.1)).2; have s330_ := g.smk; unfold SmK at s330_; have n1_ := rgI v10_4; have n2_ := rgI v10_5; have n3_ := rgI v10_1; have n4_ := rgI (qI U10 (qO U10 66 0) 2); have n5_ := rgI v10_3; omega)), ?_⟩
                  intro r5_328 S6_328 q99_ y100_ y101_
                  have o331_ : qO S6_328 66 0 = qO S24_215 66 0 := qO_eq (q99_.2.kO (y97_.2.1 _ finC_31).2.1 (by decide) (by decide))
                  have t332_ : (qI S6_328 (qO S6_328 66 0) 4).toInt = (qI S24_215 (qO S24_215 66 0) 4).toInt := by rw [o331_]; exact congrArg Int32.toInt (q99_.2.kI (j := 4) (y97_.ref (y97_.ptr ptrC_39) (y97_.2.1 _ finC_31).2.1) (by decide) (by decide))
                  have t333_ : (qN S6_328 (qO S6_328 (qO S6_328 66 0) 1) : Int) = (qN S24_215 (qO S24_215 (qO S24_215 66 0) 1) : Int) := by rw [o331_]; exact q99_.2.kL (j := 1) y97_ (y97_.ref (y97_.ptr ptrC_39) (y97_.2.1 _ finC_31).2.1) (g.row (y97_.ref (y97_.ptr ptrC_39) (y97_.2.1 _ finC_31).2.1)).1.2.1 (by decide) (by decide)
                  have t334_ : (qN S6_328 (qO S6_328 (qO S6_328 66 0) 8) : Int) = (qN S24_215 (qO S24_215 (qO S24_215 66 0) 8) : Int) := by rw [o331_]; exact q99_.2.kL (j := 8) y97_ (y97_.ref (y97_.ptr ptrC_39) (y97_.2.1 _ finC_31).2.1) (g.row (y97_.ref (y97_.ptr ptrC_39) (y97_.2.1 _ finC_31).2.1)).1.2.2.2.2.2.2 (by decide) (by decide)
                  have t335_ : (qN S6_328 (qO S6_328 (qO S6_328 66 0) 7) : Int) = (qN S24_215 (qO S24_215 (qO S24_215 66 0) 7) : Int) := by rw [o331_]; exact q99_.2.kL (j := 7) y97_ (y97_.ref (y97_.ptr ptrC_39) (y97_.2.1 _ finC_31).2.1) (g.row (y97_.ref (y97_.ptr ptrC_39) (y97_.2.1 _ finC_31).2.1)).1.2.2.2.2.2.1 (by decide) (by decide)
                  have t336_ : (qN S6_328 (qO S6_328 (qO S6_328 66 0) 0) : Int) = (qN S24_215 (qO S24_215 (qO S24_215 66 0) 0) : Int) := by rw [o331_]; exact q99_.2.kL (j := 0) y97_ (y97_.ref (y97_.ptr ptrC_39) (y97_.2.1 _ finC_31).2.1) (g.row (y97_.ref (y97_.ptr ptrC_39) (y97_.2.1 _ finC_31).2.1)).1.1 (by decide) (by decide)
                  have t337_ : (qN S6_328 (qO S6_328 (qO S6_328 66 0) 6) : Int) = (qN S24_215 (qO S24_215 (qO S24_215 66 0) 6) : Int) := by rw [o331_]; exact q99_.2.kL (j := 6) y97_ (y97_.ref (y97_.ptr ptrC_39) (y97_.2.1 _ finC_31).2.1) (g.row (y97_.ref (y97_.ptr ptrC_39) (y97_.2.1 _ finC_31).2.1)).1.2.2.2.2.1 (by decide) (by decide)
                  have t338_ : (qN S6_328 (qO S6_328 (qO S6_328 66 0) 3) : Int) = (qN S24_215 (qO S24_215 (qO S24_215 66 0) 3) : Int) := by rw [o331_]; exact q99_.2.kL (j := 3) y97_ (y97_.ref (y97_.ptr ptrC_39) (y97_.2.1 _ finC_31).2.1) (g.row (y97_.ref (y97_.ptr ptrC_39) (y97_.2.1 _ finC_31).2.1)).1.2.2.1 (by decide) (by decide)
                  have t339_ : (qN S6_328 (qO S6_328 (qO S6_328 66 0) 5) : Int) = (qN S24_215 (qO S24_215 (qO S24_215 66 0) 5) : Int) := by rw [o331_]; exact q99_.2.kL (j := 5) y97_ (y97_.ref (y97_.ptr ptrC_39) (y97_.2.1 _ finC_31).2.1) (g.row (y97_.ref (y97_.ptr ptrC_39) (y97_.2.1 _ finC_31).2.1)).1.2.2.2.1 (by decide) (by decide)
                  have g : ShC B S6_328 := q99_.1.1
                  refine ⟨fun c340_ => ?_, fun c340_ => ?_⟩
                  · intro a10_341 ea10_341 
                    have ga10_341 := congrArg Int32.toInt ea10_341
                    unfold w_X9_goThrough_J98
                    intro y102_ y103_ y104_
                    intro a8_342 ea8_342 
                    have ga8_342 := congrArg Int32.toInt ea8_342
                    refine ih10 g ?_ ?_ ?_ ?_
                    · have s343_ := (g.row (y102_.ref (y102_.ptr ptrC_39) (y102_.2.1 _ finC_31).2.1)).2
                      have s344_ := g.smk
                      unfold SmK at s344_
                      have n1_ := rgI a8_342
                      have n2_ := rgI v10_5
                      have n3_ := rgI v10_1
                      have n4_ := rgI (qI U10 (qO U10 66 0) 2)
                      have n5_ := rgI v10_4
                      have n6_ := rgI v10_3
                      have n7_ := rgI r5_328
                      have n8_ := rgI a10_341
                      have n10_ := lo_1k
                      have n10_ := t_addD (a := v10_4) (b := Int32.ofInt 1)
                      have n11_ := rgI (v10_4 + Int32.ofInt 1)
                      have n12_ := t_addD (a := v10_5) (b := Int32.ofInt 1)
                      have n13_ := rgI (v10_5 + Int32.ofInt 1)
                      omega
                    · have s345_ := (g.row (y102_.ref (y102_.ptr ptrC_39) (y102_.2.1 _ finC_31).2.1)).2
                      have s346_ := g.smk
                      unfold SmK at s346_
                      have n1_ := rgI v10_1
                      have n2_ := rgI v10_5
                      have n3_ := rgI (qI U10 (qO U10 66 0) 2)
                      have n4_ := rgI v10_4
                      have n5_ := rgI v10_3
                      have n6_ := rgI r5_328
                      have n7_ := rgI a10_341
                      have n9_ := lo_1k
                      have n9_ := t_addD (a := v10_4) (b := Int32.ofInt 1)
                      have n10_ := rgI (v10_4 + Int32.ofInt 1)
                      have n11_ := rgI a8_342
                      have n12_ := t_addD (a := v10_5) (b := Int32.ofInt 1)
                      have n13_ := rgI (v10_5 + Int32.ofInt 1)
                      omega
                    · have s347_ := (g.row (y102_.ref (y102_.ptr ptrC_39) (y102_.2.1 _ finC_31).2.1)).2
                      have s348_ := g.smk
                      unfold SmK at s348_
                      have n1_ := rgI v10_1
                      have n2_ := rgI v10_5
                      have n3_ := rgI (qI U10 (qO U10 66 0) 2)
                      have n4_ := rgI v10_4
                      have n5_ := rgI v10_3
                      have n6_ := rgI r5_328
                      have n7_ := rgI a10_341
                      have n9_ := lo_1k
                      have n9_ := t_addD (a := v10_4) (b := Int32.ofInt 1)
                      have n10_ := rgI (v10_4 + Int32.ofInt 1)
                      have n11_ := rgI a8_342
                      have n12_ := t_addD (a := v10_5) (b := Int32.ofInt 1)
                      have n13_ := rgI (v10_5 + Int32.ofInt 1)
                      omega
                    · have s349_ := (g.row (y102_.ref (y102_.ptr ptrC_39) (y102_.2.1 _ finC_31).2.1)).2
                      have s350_ := g.smk
                      unfold SmK at s350_
                      have n1_ := rgI a8_342
                      have n2_ := rgI v10_5
                      have n3_ := rgI v10_1
                      have n4_ := rgI (qI U10 (qO U10 66 0) 2)
                      have n5_ := rgI v10_4
                      have n6_ := rgI v10_3
                      have n7_ := rgI r5_328
                      have n8_ := rgI a10_341
                      have n10_ := lo_1k
                      have n10_ := t_addD (a := v10_4) (b := Int32.ofInt 1)
                      have n11_ := rgI (v10_4 + Int32.ofInt 1)
                      have n12_ := t_addD (a := v10_5) (b := Int32.ofInt 1)
                      have n13_ := rgI (v10_5 + Int32.ofInt 1)
                      omega
                  · refine ⟨?_, ?_⟩
                    · have s351_ := (g.row (y100_.ref (y100_.ptr ptrC_39) (y100_.2.1 _ finC_31).2.1)).2
                      have s352_ := g.smk
                      unfold SmK at s352_
                      have n1_ := rgI v10_1
                      have n2_ := rgI v10_5
                      have n3_ := rgI (qI U10 (qO U10 66 0) 2)
                      have n4_ := rgI v10_4
                      have n5_ := rgI v10_3
                      have n6_ := rgI r5_328
                      omega
                    refine ⟨?_, ?_⟩
                    · have s353_ := (g.row (y100_.ref (y100_.ptr ptrC_39) (y100_.2.1 _ finC_31).2.1)).2
                      have s354_ := g.smk
                      unfold SmK at s354_
                      have n1_ := rgI v10_1
                      have n2_ := rgI v10_5
                      have n3_ := rgI (qI U10 (qO U10 66 0) 2)
                      have n4_ := rgI v10_4
                      have n5_ := rgI v10_3
                      have n6_ := rgI r5_328
                      omega
                    intro S15_355 eS15_355 y105_ y106_
                    have f356_ : cfr [228] [] S6_328 S15_355 := by rw [eS15_355]; exact cfr.aI y105_ (by decide)
                    have o357_ : qO S15_355 66 0 = qO S6_328 66 0 := qO_eq (f356_.kO (y100_.2.1 _ finC_31).2.1 (by decide) (by decide))
                    have t358_ : (qI S15_355 (qO S15_355 66 0) 4).toInt = (qI S6_328 (qO S6_328 66 0) 4).toInt := by rw [o357_]; exact congrArg Int32.toInt (f356_.kI (j := 4) (y100_.ref (y100_.ptr ptrC_39) (y100_.2.1 _ finC_31).2.1) (by decide) (by decide))
                    have t359_ : (qI S15_355 (qO S15_355 66 0) 9).toInt = (qI S6_328 (qO S6_328 66 0) 9).toInt := by rw [o357_]; exact congrArg Int32.toInt (f356_.kI (j := 9) (y100_.ref (y100_.ptr ptrC_39) (y100_.2.1 _ finC_31).2.1) (by decide) (by decide))
                    have t360_ : (qI S15_355 (qO S15_355 66 0) 2).toInt = (qI S6_328 (qO S6_328 66 0) 2).toInt := by rw [o357_]; exact congrArg Int32.toInt (f356_.kI (j := 2) (y100_.ref (y100_.ptr ptrC_39) (y100_.2.1 _ finC_31).2.1) (by decide) (by decide))
                    have t361_ : (qN S15_355 (qO S15_355 (qO S15_355 66 0) 1) : Int) = (qN S6_328 (qO S6_328 (qO S6_328 66 0) 1) : Int) := by rw [o357_]; exact f356_.kL (j := 1) y100_ (y100_.ref (y100_.ptr ptrC_39) (y100_.2.1 _ finC_31).2.1) (g.row (y100_.ref (y100_.ptr ptrC_39) (y100_.2.1 _ finC_31).2.1)).1.2.1 (by decide) (by decide)
                    have t362_ : (qN S15_355 (qO S15_355 (qO S15_355 66 0) 8) : Int) = (qN S6_328 (qO S6_328 (qO S6_328 66 0) 8) : Int) := by rw [o357_]; exact f356_.kL (j := 8) y100_ (y100_.ref (y100_.ptr ptrC_39) (y100_.2.1 _ finC_31).2.1) (g.row (y100_.ref (y100_.ptr ptrC_39) (y100_.2.1 _ finC_31).2.1)).1.2.2.2.2.2.2 (by decide) (by decide)
                    have t363_ : (qN S15_355 (qO S15_355 (qO S15_355 66 0) 7) : Int) = (qN S6_328 (qO S6_328 (qO S6_328 66 0) 7) : Int) := by rw [o357_]; exact f356_.kL (j := 7) y100_ (y100_.ref (y100_.ptr ptrC_39) (y100_.2.1 _ finC_31).2.1) (g.row (y100_.ref (y100_.ptr ptrC_39) (y100_.2.1 _ finC_31).2.1)).1.2.2.2.2.2.1 (by decide) (by decide)
                    have t364_ : (qN S15_355 (qO S15_355 (qO S15_355 66 0) 0) : Int) = (qN S6_328 (qO S6_328 (qO S6_328 66 0) 0) : Int) := by rw [o357_]; exact f356_.kL (j := 0) y100_ (y100_.ref (y100_.ptr ptrC_39) (y100_.2.1 _ finC_31).2.1) (g.row (y100_.ref (y100_.ptr ptrC_39) (y100_.2.1 _ finC_31).2.1)).1.1 (by decide) (by decide)
                    have t365_ : (qN S15_355 (qO S15_355 (qO S15_355 66 0) 6) : Int) = (qN S6_328 (qO S6_328 (qO S6_328 66 0) 6) : Int) := by rw [o357_]; exact f356_.kL (j := 6) y100_ (y100_.ref (y100_.ptr ptrC_39) (y100_.2.1 _ finC_31).2.1) (g.row (y100_.ref (y100_.ptr ptrC_39) (y100_.2.1 _ finC_31).2.1)).1.2.2.2.2.1 (by decide) (by decide)
                    have t366_ : (qN S15_355 (qO S15_355 (qO S15_355 66 0) 3) : Int) = (qN S6_328 (qO S6_328 (qO S6_328 66 0) 3) : Int) := by rw [o357_]; exact f356_.kL (j := 3) y100_ (y100_.ref (y100_.ptr ptrC_39) (y100_.2.1 _ finC_31).2.1) (g.row (y100_.ref (y100_.ptr ptrC_39) (y100_.2.1 _ finC_31).2.1)).1.2.2.1 (by decide) (by decide)
                    have t367_ : (qN S15_355 (qO S15_355 (qO S15_355 66 0) 5) : Int) = (qN S6_328 (qO S6_328 (qO S6_328 66 0) 5) : Int) := by rw [o357_]; exact f356_.kL (j := 5) y100_ (y100_.ref (y100_.ptr ptrC_39) (y100_.2.1 _ finC_31).2.1) (g.row (y100_.ref (y100_.ptr ptrC_39) (y100_.2.1 _ finC_31).2.1)).1.2.2.2.1 (by decide) (by decide)
                    have g : ShC B S15_355 := ShC.ws y100_ g f356_ (by rw [eS15_355]; rfl) (by rw [eS15_355]; rfl) (by rw [eS15_355]; rfl) rfl rfl
                    unfold w_X9_goThrough_J98
                    intro y107_ y108_ y109_
                    intro a8_368 ea8_368 
                    have ga8_368 := congrArg Int32.toInt ea8_368
                    refine ih10 g ?_ ?_ ?_ ?_
                    · have s369_ := (g.row (y107_.ref (y107_.ptr ptrC_39) (y107_.2.1 _ finC_31).2.1)).2
                      have s370_ := g.smk
                      unfold SmK at s370_
                      have n1_ := rgI a8_368
                      have n2_ := rgI v10_5
                      have n3_ := rgI v10_1
                      have n4_ := rgI (qI U10 (qO U10 66 0) 2)
                      have n5_ := rgI v10_4
                      have n6_ := rgI v10_3
                      have n7_ := rgI r5_328
                      have n9_ := lo_1k
                      have n9_ := t_addD (a := v10_5) (b := Int32.ofInt 1)
                      have n10_ := rgI (v10_5 + Int32.ofInt 1)
                      omega
                    · have s371_ := (g.row (y107_.ref (y107_.ptr ptrC_39) (y107_.2.1 _ finC_31).2.1)).2
                      have s372_ := g.smk
                      unfold SmK at s372_
                      have n1_ := rgI v10_1
                      have n2_ := rgI v10_5
                      have n3_ := rgI (qI U10 (qO U10 66 0) 2)
                      have n4_ := rgI v10_4
                      have n5_ := rgI v10_3
                      have n6_ := rgI r5_328
                      have n7_ := rgI a8_368
                      have n9_ := lo_1k
                      have n9_ := t_addD (a := v10_5) (b := Int32.ofInt 1)
                      have n10_ := rgI (v10_5 + Int32.ofInt 1)
                      omega
                    · have s373_ := (g.row (y107_.ref (y107_.ptr ptrC_39) (y107_.2.1 _ finC_31).2.1)).2
                      have s374_ := g.smk
                      unfold SmK at s374_
                      have n1_ := rgI v10_1
                      have n2_ := rgI v10_5
                      have n3_ := rgI (qI U10 (qO U10 66 0) 2)
                      have n4_ := rgI v10_4
                      have n5_ := rgI v10_3
                      have n6_ := rgI r5_328
                      have n7_ := rgI a8_368
                      have n9_ := lo_1k
                      have n9_ := t_addD (a := v10_5) (b := Int32.ofInt 1)
                      have n10_ := rgI (v10_5 + Int32.ofInt 1)
                      omega
                    · have s375_ := (g.row (y107_.ref (y107_.ptr ptrC_39) (y107_.2.1 _ finC_31).2.1)).2
                      have s376_ := g.smk
                      unfold SmK at s376_
                      have n1_ := rgI a8_368
                      have n2_ := rgI v10_5
                      have n3_ := rgI v10_1
                      have n4_ := rgI (qI U10 (qO U10 66 0) 2)
                      have n5_ := rgI v10_4
                      have n6_ := rgI v10_3
                      have n7_ := rgI r5_328
                      have n9_ := lo_1k
                      have n9_ := t_addD (a := v10_5) (b := Int32.ofInt 1)
                      have n10_ := rgI (v10_5 + Int32.ofInt 1)
                      omega
                · refine ⟨_, frX9_findMarked y68_ (sgX9_findMarked y68_ g), ?_⟩
                  intro S20_377 q110_ y111_ y112_
                  have o378_ : qO S20_377 66 0 = qO S24_215 66 0 := qO_eq (q110_.2.kO (y68_.2.1 _ finC_31).2.1 (by decide) (by decide))
                  have t379_ : (qI S20_377 (qO S20_377 66 0) 4).toInt = (qI S24_215 (qO S24_215 66 0) 4).toInt := by rw [o378_]; exact congrArg Int32.toInt (q110_.2.kI (j := 4) (y68_.ref (y68_.ptr ptrC_39) (y68_.2.1 _ finC_31).2.1) (by decide) (by decide))
                  have t380_ : (qI S20_377 (qO S20_377 66 0) 9).toInt = (qI S24_215 (qO S24_215 66 0) 9).toInt := by rw [o378_]; exact congrArg Int32.toInt (q110_.2.kI (j := 9) (y68_.ref (y68_.ptr ptrC_39) (y68_.2.1 _ finC_31).2.1) (by decide) (by decide))
                  have t381_ : (qI S20_377 (qO S20_377 66 0) 2).toInt = (qI S24_215 (qO S24_215 66 0) 2).toInt := by rw [o378_]; exact congrArg Int32.toInt (q110_.2.kI (j := 2) (y68_.ref (y68_.ptr ptrC_39) (y68_.2.1 _ finC_31).2.1) (by decide) (by decide))
                  have t382_ : (qN S20_377 (qO S20_377 (qO S20_377 66 0) 1) : Int) = (qN S24_215 (qO S24_215 (qO S24_215 66 0) 1) : Int) := by rw [o378_]; exact q110_.2.kL (j := 1) y68_ (y68_.ref (y68_.ptr ptrC_39) (y68_.2.1 _ finC_31).2.1) (g.row (y68_.ref (y68_.ptr ptrC_39) (y68_.2.1 _ finC_31).2.1)).1.2.1 (by decide) (by decide)
                  have t383_ : (qN S20_377 (qO S20_377 (qO S20_377 66 0) 8) : Int) = (qN S24_215 (qO S24_215 (qO S24_215 66 0) 8) : Int) := by rw [o378_]; exact q110_.2.kL (j := 8) y68_ (y68_.ref (y68_.ptr ptrC_39) (y68_.2.1 _ finC_31).2.1) (g.row (y68_.ref (y68_.ptr ptrC_39) (y68_.2.1 _ finC_31).2.1)).1.2.2.2.2.2.2 (by decide) (by decide)
                  have t384_ : (qN S20_377 (qO S20_377 (qO S20_377 66 0) 7) : Int) = (qN S24_215 (qO S24_215 (qO S24_215 66 0) 7) : Int) := by rw [o378_]; exact q110_.2.kL (j := 7) y68_ (y68_.ref (y68_.ptr ptrC_39) (y68_.2.1 _ finC_31).2.1) (g.row (y68_.ref (y68_.ptr ptrC_39) (y68_.2.1 _ finC_31).2.1)).1.2.2.2.2.2.1 (by decide) (by decide)
                  have t385_ : (qN S20_377 (qO S20_377 (qO S20_377 66 0) 0) : Int) = (qN S24_215 (qO S24_215 (qO S24_215 66 0) 0) : Int) := by rw [o378_]; exact q110_.2.kL (j := 0) y68_ (y68_.ref (y68_.ptr ptrC_39) (y68_.2.1 _ finC_31).2.1) (g.row (y68_.ref (y68_.ptr ptrC_39) (y68_.2.1 _ finC_31).2.1)).1.1 (by decide) (by decide)
                  have t386_ : (qN S20_377 (qO S20_377 (qO S20_377 66 0) 6) : Int) = (qN S24_215 (qO S24_215 (qO S24_215 66 0) 6) : Int) := by rw [o378_]; exact q110_.2.kL (j := 6) y68_ (y68_.ref (y68_.ptr ptrC_39) (y68_.2.1 _ finC_31).2.1) (g.row (y68_.ref (y68_.ptr ptrC_39) (y68_.2.1 _ finC_31).2.1)).1.2.2.2.2.1 (by decide) (by decide)
                  have t387_ : (qN S20_377 (qO S20_377 (qO S20_377 66 0) 3) : Int) = (qN S24_215 (qO S24_215 (qO S24_215 66 0) 3) : Int) := by rw [o378_]; exact q110_.2.kL (j := 3) y68_ (y68_.ref (y68_.ptr ptrC_39) (y68_.2.1 _ finC_31).2.1) (g.row (y68_.ref (y68_.ptr ptrC_39) (y68_.2.1 _ finC_31).2.1)).1.2.2.1 (by decide) (by decide)
                  have t388_ : (qN S20_377 (qO S20_377 (qO S20_377 66 0) 5) : Int) = (qN S24_215 (qO S24_215 (qO S24_215 66 0) 5) : Int) := by rw [o378_]; exact q110_.2.kL (j := 5) y68_ (y68_.ref (y68_.ptr ptrC_39) (y68_.2.1 _ finC_31).2.1) (g.row (y68_.ref (y68_.ptr ptrC_39) (y68_.2.1 _ finC_31).2.1)).1.2.2.2.1 (by decide) (by decide)
                  have g : ShC B S20_377 := q110_.1.1
                  unfold w_X9_goThrough_J68
                  intro y113_ y114_
                  refine ⟨_, frX9_isDone y113_ (sgX9_isDone y113_ g (by have s390_ := (g.row (y113_.ref (y113_.ptr ptrC_39) (y113_.2.1 _ finC_31).2.1)).2; have s391_ := g.smk; unfold SmK at s391_; have n1_ := rgI v10_4; have n2_ := rgI v10_5; have n3_ := rgI v10_1; have n4_ := rgI (qI U10 (qO U10 66 0) 2); have n5_ := rgI v10_3; omega)), ?_⟩
                  intro r5_389 S6_389 q115_ y116_ y117_
                  have o392_ : qO S6_389 66 0 = qO S20_377 66 0 := qO_eq (q115_.2.kO (y113_.2.1 _ finC_31).2.1 (by decide) (by decide))
                  have t393_ : (qI S6_389 (qO S6_389 66 0) 4).toInt = (qI S20_377 (qO S20_377 66 0) 4).toInt := by rw [o392_]; exact congrArg Int32.toInt (q115_.2.kI (j := 4) (y113_.ref (y113_.ptr ptrC_39) (y113_.2.1 _ finC_31).2.1) (by decide) (by decide))
                  have t394_ : (qN S6_389 (qO S6_389 (qO S6_389 66 0) 1) : Int) = (qN S20_377 (qO S20_377 (qO S20_377 66 0) 1) : Int) := by rw [o392_]; exact q115_.2.kL (j := 1) y113_ (y113_.ref (y113_.ptr ptrC_39) (y113_.2.1 _ finC_31).2.1) (g.row (y113_.ref (y113_.ptr ptrC_39) (y113_.2.1 _ finC_31).2.1)).1.2.1 (by decide) (by decide)
                  have t395_ : (qN S6_389 (qO S6_389 (qO S6_389 66 0) 8) : Int) = (qN S20_377 (qO S20_377 (qO S20_377 66 0) 8) : Int) := by rw [o392_]; exact q115_.2.kL (j := 8) y113_ (y113_.ref (y113_.ptr ptrC_39) (y113_.2.1 _ finC_31).2.1) (g.row (y113_.ref (y113_.ptr ptrC_39) (y113_.2.1 _ finC_31).2.1)).1.2.2.2.2.2.2 (by decide) (by decide)
                  have t396_ : (qN S6_389 (qO S6_389 (qO S6_389 66 0) 7) : Int) = (qN S20_377 (qO S20_377 (qO S20_377 66 0) 7) : Int) := by rw [o392_]; exact q115_.2.kL (j := 7) y113_ (y113_.ref (y113_.ptr ptrC_39) (y113_.2.1 _ finC_31).2.1) (g.row (y113_.ref (y113_.ptr ptrC_39) (y113_.2.1 _ finC_31).2.1)).1.2.2.2.2.2.1 (by decide) (by decide)
                  have t397_ : (qN S6_389 (qO S6_389 (qO S6_389 66 0) 0) : Int) = (qN S20_377 (qO S20_377 (qO S20_377 66 0) 0) : Int) := by rw [o392_]; exact q115_.2.kL (j := 0) y113_ (y113_.ref (y113_.ptr ptrC_39) (y113_.2.1 _ finC_31).2.1) (g.row (y113_.ref (y113_.ptr ptrC_39) (y113_.2.1 _ finC_31).2.1)).1.1 (by decide) (by decide)
                  have t398_ : (qN S6_389 (qO S6_389 (qO S6_389 66 0) 6) : Int) = (qN S20_377 (qO S20_377 (qO S20_377 66 0) 6) : Int) := by rw [o392_]; exact q115_.2.kL (j := 6) y113_ (y113_.ref (y113_.ptr ptrC_39) (y113_.2.1 _ finC_31).2.1) (g.row (y113_.ref (y113_.ptr ptrC_39) (y113_.2.1 _ finC_31).2.1)).1.2.2.2.2.1 (by decide) (by decide)
                  have t399_ : (qN S6_389 (qO S6_389 (qO S6_389 66 0) 3) : Int) = (qN S20_377 (qO S20_377 (qO S20_377 66 0) 3) : Int) := by rw [o392_]; exact q115_.2.kL (j := 3) y113_ (y113_.ref (y113_.ptr ptrC_39) (y113_.2.1 _ finC_31).2.1) (g.row (y113_.ref (y113_.ptr ptrC_39) (y113_.2.1 _ finC_31).2.1)).1.2.2.1 (by decide) (by decide)
                  have t400_ : (qN S6_389 (qO S6_389 (qO S6_389 66 0) 5) : Int) = (qN S20_377 (qO S20_377 (qO S20_377 66 0) 5) : Int) := by rw [o392_]; exact q115_.2.kL (j := 5) y113_ (y113_.ref (y113_.ptr ptrC_39) (y113_.2.1 _ finC_31).2.1) (g.row (y113_.ref (y113_.ptr ptrC_39) (y113_.2.1 _ finC_31).2.1)).1.2.2.2.1 (by decide) (by decide)
                  have g : ShC B S6_389 := q115_.1.1
                  refine ⟨fun c401_ => ?_, fun c401_ => ?_⟩
                  · intro a10_402 ea10_402 
                    have ga10_402 := congrArg Int32.toInt ea10_402
                    unfold w_X9_goThrough_J98
                    intro y118_ y119_ y120_
                    intro a8_403 ea8_403 
                    have ga8_403 := congrArg Int32.toInt ea8_403
                    refine ih10 g ?_ ?_ ?_ ?_
                    · have s404_ := (g.row (y118_.ref (y118_.ptr ptrC_39) (y118_.2.1 _ finC_31).2.1)).2
                      have s405_ := g.smk
                      unfold SmK at s405_
                      have n1_ := rgI a8_403
                      have n2_ := rgI v10_5
                      have n3_ := rgI v10_1
                      have n4_ := rgI (qI U10 (qO U10 66 0) 2)
                      have n5_ := rgI v10_4
                      have n6_ := rgI v10_3
                      have n7_ := rgI r5_389
                      have n8_ := rgI a10_402
                      have n10_ := lo_1k
                      have n10_ := t_addD (a := v10_4) (b := Int32.ofInt 1)
                      have n11_ := rgI (v10_4 + Int32.ofInt 1)
                      have n12_ := t_addD (a := v10_5) (b := Int32.ofInt 1)
                      have n13_ := rgI (v10_5 + Int32.ofInt 1)
                      omega
                    · have s406_ := (g.row (y118_.ref (y118_.ptr ptrC_39) (y118_.2.1 _ finC_31).2.1)).2
                      have s407_ := g.smk
                      unfold SmK at s407_
                      have n1_ := rgI v10_1
                      have n2_ := rgI v10_5
                      have n3_ := rgI (qI U10 (qO U10 66 0) 2)
                      have n4_ := rgI v10_4
                      have n5_ := rgI v10_3
                      have n6_ := rgI r5_389
                      have n7_ := rgI a10_402
                      have n9_ := lo_1k
                      have n9_ := t_addD (a := v10_4) (b := Int32.ofInt 1)
                      have n10_ := rgI (v10_4 + Int32.ofInt 1)
                      have n11_ := rgI a8_403
                      have n12_ := t_addD (a := v10_5) (b := Int32.ofInt 1)
                      have n13_ := rgI (v10_5 + Int32.ofInt 1)
                      omega
                    · have s408_ := (g.row (y118_.ref (y118_.ptr ptrC_39) (y118_.2.1 _ finC_31).2.1)).2
                      have s409_ := g.smk
                      unfold SmK at s409_
                      have n1_ := rgI v10_1
                      have n2_ := rgI v10_5
                      have n3_ := rgI (qI U10 (qO U10 66 0) 2)
                      have n4_ := rgI v10_4
                      have n5_ := rgI v10_3
                      have n6_ := rgI r5_389
                      have n7_ := rgI a10_402
                      have n9_ := lo_1k
                      have n9_ := t_addD (a := v10_4) (b := Int32.ofInt 1)
                      have n10_ := rgI (v10_4 + Int32.ofInt 1)
                      have n11_ := rgI a8_403
                      have n12_ := t_addD (a := v10_5) (b := Int32.ofInt 1)
                      have n13_ := rgI (v10_5 + Int32.ofInt 1)
                      omega
                    · have s410_ := (g.row (y118_.ref (y118_.ptr ptrC_39) (y118_.2.1 _ finC_31).2.1)).2
                      have s411_ := g.smk
                      unfold SmK at s411_
                      have n1_ := rgI a8_403
                      have n2_ := rgI v10_5
                      have n3_ := rgI v10_1
                      have n4_ := rgI (qI U10 (qO U10 66 0) 2)
                      have n5_ := rgI v10_4
                      have n6_ := rgI v10_3
                      have n7_ := rgI r5_389
                      have n8_ := rgI a10_402
                      have n10_ := lo_1k
                      have n10_ := t_addD (a := v10_4) (b := Int32.ofInt 1)
                      have n11_ := rgI (v10_4 + Int32.ofInt 1)
                      have n12_ := t_addD (a := v10_5) (b := Int32.ofInt 1)
                      have n13_ := rgI (v10_5 + Int32.ofInt 1)
                      omega
                  · refine ⟨?_, ?_⟩
                    · have s412_ := (g.row (y116_.ref (y116_.ptr ptrC_39) (y116_.2.1 _ finC_31).2.1)).2
                      have s413_ := g.smk
                      unfold SmK at s413_
                      have n1_ := rgI v10_1
                      have n2_ := rgI v10_5
                      have n3_ := rgI (qI U10 (qO U10 66 0) 2)
                      have n4_ := rgI v10_4
                      have n5_ := rgI v10_3
                      have n6_ := rgI r5_389
                      omega
                    refine ⟨?_, ?_⟩
                    · have s414_ := (g.row (y116_.ref (y116_.ptr ptrC_39) (y116_.2.1 _ finC_31).2.1)).2
                      have s415_ := g.smk
                      unfold SmK at s415_
                      have n1_ := rgI v10_1
                      have n2_ := rgI v10_5
                      have n3_ := rgI (qI U10 (qO U10 66 0) 2)
                      have n4_ := rgI v10_4
                      have n5_ := rgI v10_3
                      have n6_ := rgI r5_389
                      omega
                    intro S15_416 eS15_416 y121_ y122_
                    have f417_ : cfr [228] [] S6_389 S15_416 := by rw [eS15_416]; exact cfr.aI y121_ (by decide)
                    have o418_ : qO S15_416 66 0 = qO S6_389 66 0 := qO_eq (f417_.kO (y116_.2.1 _ finC_31).2.1 (by decide) (by decide))
                    have t419_ : (qI S15_416 (qO S15_416 66 0) 4).toInt = (qI S6_389 (qO S6_389 66 0) 4).toInt := by rw [o418_]; exact congrArg Int32.toInt (f417_.kI (j := 4) (y116_.ref (y116_.ptr ptrC_39) (y116_.2.1 _ finC_31).2.1) (by decide) (by decide))
                    have t420_ : (qI S15_416 (qO S15_416 66 0) 9).toInt = (qI S6_389 (qO S6_389 66 0) 9).toInt := by rw [o418_]; exact congrArg Int32.toInt (f417_.kI (j := 9) (y116_.ref (y116_.ptr ptrC_39) (y116_.2.1 _ finC_31).2.1) (by decide) (by decide))
                    have t421_ : (qI S15_416 (qO S15_416 66 0) 2).toInt = (qI S6_389 (qO S6_389 66 0) 2).toInt := by rw [o418_]; exact congrArg Int32.toInt (f417_.kI (j := 2) (y116_.ref (y116_.ptr ptrC_39) (y116_.2.1 _ finC_31).2.1) (by decide) (by decide))
                    have t422_ : (qN S15_416 (qO S15_416 (qO S15_416 66 0) 1) : Int) = (qN S6_389 (qO S6_389 (qO S6_389 66 0) 1) : Int) := by rw [o418_]; exact f417_.kL (j := 1) y116_ (y116_.ref (y116_.ptr ptrC_39) (y116_.2.1 _ finC_31).2.1) (g.row (y116_.ref (y116_.ptr ptrC_39) (y116_.2.1 _ finC_31).2.1)).1.2.1 (by decide) (by decide)
                    have t423_ : (qN S15_416 (qO S15_416 (qO S15_416 66 0) 8) : Int) = (qN S6_389 (qO S6_389 (qO S6_389 66 0) 8) : Int) := by rw [o418_]; exact f417_.kL (j := 8) y116_ (y116_.ref (y116_.ptr ptrC_39) (y116_.2.1 _ finC_31).2.1) (g.row (y116_.ref (y116_.ptr ptrC_39) (y116_.2.1 _ finC_31).2.1)).1.2.2.2.2.2.2 (by decide) (by decide)
                    have t424_ : (qN S15_416 (qO S15_416 (qO S15_416 66 0) 7) : Int) = (qN S6_389 (qO S6_389 (qO S6_389 66 0) 7) : Int) := by rw [o418_]; exact f417_.kL (j := 7) y116_ (y116_.ref (y116_.ptr ptrC_39) (y116_.2.1 _ finC_31).2.1) (g.row (y116_.ref (y116_.ptr ptrC_39) (y116_.2.1 _ finC_31).2.1)).1.2.2.2.2.2.1 (by decide) (by decide)
                    have t425_ : (qN S15_416 (qO S15_416 (qO S15_416 66 0) 0) : Int) = (qN S6_389 (qO S6_389 (qO S6_389 66 0) 0) : Int) := by rw [o418_]; exact f417_.kL (j := 0) y116_ (y116_.ref (y116_.ptr ptrC_39) (y116_.2.1 _ finC_31).2.1) (g.row (y116_.ref (y116_.ptr ptrC_39) (y116_.2.1 _ finC_31).2.1)).1.1 (by decide) (by decide)
                    have t426_ : (qN S15_416 (qO S15_416 (qO S15_416 66 0) 6) : Int) = (qN S6_389 (qO S6_389 (qO S6_389 66 0) 6) : Int) := by rw [o418_]; exact f417_.kL (j := 6) y116_ (y116_.ref (y116_.ptr ptrC_39) (y116_.2.1 _ finC_31).2.1) (g.row (y116_.ref (y116_.ptr ptrC_39) (y116_.2.1 _ finC_31).2.1)).1.2.2.2.2.1 (by decide) (by decide)
                    have t427_ : (qN S15_416 (qO S15_416 (qO S15_416 66 0) 3) : Int) = (qN S6_389 (qO S6_389 (qO S6_389 66 0) 3) : Int) := by rw [o418_]; exact f417_.kL (j := 3) y116_ (y116_.ref (y116_.ptr ptrC_39) (y116_.2.1 _ finC_31).2.1) (g.row (y116_.ref (y116_.ptr ptrC_39) (y116_.2.1 _ finC_31).2.1)).1.2.2.1 (by decide) (by decide)
                    have t428_ : (qN S15_416 (qO S15_416 (qO S15_416 66 0) 5) : Int) = (qN S6_389 (qO S6_389 (qO S6_389 66 0) 5) : Int) := by rw [o418_]; exact f417_.kL (j := 5) y116_ (y116_.ref (y116_.ptr ptrC_39) (y116_.2.1 _ finC_31).2.1) (g.row (y116_.ref (y116_.ptr ptrC_39) (y116_.2.1 _ finC_31).2.1)).1.2.2.2.1 (by decide) (by decide)
                    have g : ShC B S15_416 := ShC.ws y116_ g f417_ (by rw [eS15_416]; rfl) (by rw [eS15_416]; rfl) (by rw [eS15_416]; rfl) rfl rfl
                    unfold w_X9_goThrough_J98
                    intro y123_ y124_ y125_
                    intro a8_429 ea8_429 
                    have ga8_429 := congrArg Int32.toInt ea8_429
                    refine ih10 g ?_ ?_ ?_ ?_
                    · have s430_ := (g.row (y123_.ref (y123_.ptr ptrC_39) (y123_.2.1 _ finC_31).2.1)).2
                      have s431_ := g.smk
                      unfold SmK at s431_
                      have n1_ := rgI a8_429
                      have n2_ := rgI v10_5
                      have n3_ := rgI v10_1
                      have n4_ := rgI (qI U10 (qO U10 66 0) 2)
                      have n5_ := rgI v10_4
                      have n6_ := rgI v10_3
                      have n7_ := rgI r5_389
                      have n9_ := lo_1k
                      have n9_ := t_addD (a := v10_5) (b := Int32.ofInt 1)
                      have n10_ := rgI (v10_5 + Int32.ofInt 1)
                      omega
                    · have s432_ := (g.row (y123_.ref (y123_.ptr ptrC_39) (y123_.2.1 _ finC_31).2.1)).2
                      have s433_ := g.smk
                      unfold SmK at s433_
                      have n1_ := rgI v10_1
                      have n2_ := rgI v10_5
                      have n3_ := rgI (qI U10 (qO U10 66 0) 2)
                      have n4_ := rgI v10_4
                      have n5_ := rgI v10_3
                      have n6_ := rgI r5_389
                      have n7_ := rgI a8_429
                      have n9_ := lo_1k
                      have n9_ := t_addD (a := v10_5) (b := Int32.ofInt 1)
                      have n10_ := rgI (v10_5 + Int32.ofInt 1)
                      omega
                    · have s434_ := (g.row (y123_.ref (y123_.ptr ptrC_39) (y123_.2.1 _ finC_31).2.1)).2
                      have s435_ := g.smk
                      unfold SmK at s435_
                      have n1_ := rgI v10_1
                      have n2_ := rgI v10_5
                      have n3_ := rgI (qI U10 (qO U10 66 0) 2)
                      have n4_ := rgI v10_4
                      have n5_ := rgI v10_3
                      have n6_ := rgI r5_389
                      have n7_ := rgI a8_429
                      have n9_ := lo_1k
                      have n9_ := t_addD (a := v10_5) (b := Int32.ofInt 1)
                      have n10_ := rgI (v10_5 + Int32.ofInt 1)
                      omega
                    · have s436_ := (g.row (y123_.ref (y123_.ptr ptrC_39) (y123_.2.1 _ finC_31).2.1)).2
                      have s437_ := g.smk
                      unfold SmK at s437_
                      have n1_ := rgI a8_429
                      have n2_ := rgI v10_5
                      have n3_ := rgI v10_1
                      have n4_ := rgI (qI U10 (qO U10 66 0) 2)
                      have n5_ := rgI v10_4
                      have n6_ := rgI v10_3
                      have n7_ := rgI r5_389
                      have n9_ := lo_1k
                      have n9_ := t_addD (a := v10_5) (b := Int32.ofInt 1)
                      have n10_ := rgI (v10_5 + Int32.ofInt 1)
                      omega
          · refine ⟨fun c438_ => ?_, fun c438_ => ?_⟩
            · unfold w_X9_goThrough_J45
              intro y126_ y127_ y128_
              refine ⟨_, frX9_findLive y126_ (sgX9_findLive y126_ g), ?_⟩
              intro S24_439 q129_ y130_ y131_
              have o440_ : qO S24_439 66 0 = qO U10 66 0 := qO_eq (q129_.2.kO (y126_.2.1 _ finC_31).2.1 (by decide) (by decide))
              have t441_ : (qI S24_439 (qO S24_439 66 0) 4).toInt = (qI U10 (qO U10 66 0) 4).toInt := by rw [o440_]; exact congrArg Int32.toInt (q129_.2.kI (j := 4) (y126_.ref (y126_.ptr ptrC_39) (y126_.2.1 _ finC_31).2.1) (by decide) (by decide))
              have t442_ : (qI S24_439 (qO S24_439 66 0) 9).toInt = (qI U10 (qO U10 66 0) 9).toInt := by rw [o440_]; exact congrArg Int32.toInt (q129_.2.kI (j := 9) (y126_.ref (y126_.ptr ptrC_39) (y126_.2.1 _ finC_31).2.1) (by decide) (by decide))
              have t443_ : (qI S24_439 (qO S24_439 66 0) 2).toInt = (qI U10 (qO U10 66 0) 2).toInt := by rw [o440_]; exact congrArg Int32.toInt (q129_.2.kI (j := 2) (y126_.ref (y126_.ptr ptrC_39) (y126_.2.1 _ finC_31).2.1) (by decide) (by decide))
              have t444_ : (qN S24_439 (qO S24_439 (qO S24_439 66 0) 1) : Int) = (qN U10 (qO U10 (qO U10 66 0) 1) : Int) := by rw [o440_]; exact q129_.2.kL (j := 1) y126_ (y126_.ref (y126_.ptr ptrC_39) (y126_.2.1 _ finC_31).2.1) (g.row (y126_.ref (y126_.ptr ptrC_39) (y126_.2.1 _ finC_31).2.1)).1.2.1 (by decide) (by decide)
              have t445_ : (qN S24_439 (qO S24_439 (qO S24_439 66 0) 8) : Int) = (qN U10 (qO U10 (qO U10 66 0) 8) : Int) := by rw [o440_]; exact q129_.2.kL (j := 8) y126_ (y126_.ref (y126_.ptr ptrC_39) (y126_.2.1 _ finC_31).2.1) (g.row (y126_.ref (y126_.ptr ptrC_39) (y126_.2.1 _ finC_31).2.1)).1.2.2.2.2.2.2 (by decide) (by decide)
              have t446_ : (qN S24_439 (qO S24_439 (qO S24_439 66 0) 7) : Int) = (qN U10 (qO U10 (qO U10 66 0) 7) : Int) := by rw [o440_]; exact q129_.2.kL (j := 7) y126_ (y126_.ref (y126_.ptr ptrC_39) (y126_.2.1 _ finC_31).2.1) (g.row (y126_.ref (y126_.ptr ptrC_39) (y126_.2.1 _ finC_31).2.1)).1.2.2.2.2.2.1 (by decide) (by decide)
              have t447_ : (qN S24_439 (qO S24_439 (qO S24_439 66 0) 0) : Int) = (qN U10 (qO U10 (qO U10 66 0) 0) : Int) := by rw [o440_]; exact q129_.2.kL (j := 0) y126_ (y126_.ref (y126_.ptr ptrC_39) (y126_.2.1 _ finC_31).2.1) (g.row (y126_.ref (y126_.ptr ptrC_39) (y126_.2.1 _ finC_31).2.1)).1.1 (by decide) (by decide)
              have t448_ : (qN S24_439 (qO S24_439 (qO S24_439 66 0) 6) : Int) = (qN U10 (qO U10 (qO U10 66 0) 6) : Int) := by rw [o440_]; exact q129_.2.kL (j := 6) y126_ (y126_.ref (y126_.ptr ptrC_39) (y126_.2.1 _ finC_31).2.1) (g.row (y126_.ref (y126_.ptr ptrC_39) (y126_.2.1 _ finC_31).2.1)).1.2.2.2.2.1 (by decide) (by decide)
              have t449_ : (qN S24_439 (qO S24_439 (qO S24_439 66 0) 3) : Int) = (qN U10 (qO U10 (qO U10 66 0) 3) : Int) := by rw [o440_]; exact q129_.2.kL (j := 3) y126_ (y126_.ref (y126_.ptr ptrC_39) (y126_.2.1 _ finC_31).2.1) (g.row (y126_.ref (y126_.ptr ptrC_39) (y126_.2.1 _ finC_31).2.1)).1.2.2.1 (by decide) (by decide)
              have t450_ : (qN S24_439 (qO S24_439 (qO S24_439 66 0) 5) : Int) = (qN U10 (qO U10 (qO U10 66 0) 5) : Int) := by rw [o440_]; exact q129_.2.kL (j := 5) y126_ (y126_.ref (y126_.ptr ptrC_39) (y126_.2.1 _ finC_31).2.1) (g.row (y126_.ref (y126_.ptr ptrC_39) (y126_.2.1 _ finC_31).2.1)).1.2.2.2.1 (by decide) (by decide)
              have g : ShC B S24_439 := q129_.1.1
              unfold w_X9_goThrough_J49
              intro y132_ y133_ y134_
              refine ⟨fun c451_ => ?_, fun c451_ => ?_⟩
              · unfold w_X9_goThrough_J68
                intro y135_ y136_
                refine ⟨_, frX9_isDone y135_ (sgX9_isDone y135_ g (by have s453_ := (g.row (y135_.ref (y135_.ptr ptrC_39) (y135_.2.1 _ finC_31).2.1)).2; have s454_ := g.smk; unfold SmK at s454_; have n1_ := rgI v10_4; have n2_ := rgI v10_5; have n3_ := rgI v10_1; have n4_ := rgI (qI U10 (qO U10 66 0) 2); have n5_ := rgI v10_3; omega)), ?_⟩
                intro r5_452 S6_452 q137_ y138_ y139_
                have o455_ : qO S6_452 66 0 = qO S24_439 66 0 := qO_eq (q137_.2.kO (y135_.2.1 _ finC_31).2.1 (by decide) (by decide))
                have t456_ : (qI S6_452 (qO S6_452 66 0) 4).toInt = (qI S24_439 (qO S24_439 66 0) 4).toInt := by rw [o455_]; exact congrArg Int32.toInt (q137_.2.kI (j := 4) (y135_.ref (y135_.ptr ptrC_39) (y135_.2.1 _ finC_31).2.1) (by decide) (by decide))
                have t457_ : (qN S6_452 (qO S6_452 (qO S6_452 66 0) 1) : Int) = (qN S24_439 (qO S24_439 (qO S24_439 66 0) 1) : Int) := by rw [o455_]; exact q137_.2.kL (j := 1) y135_ (y135_.ref (y135_.ptr ptrC_39) (y135_.2.1 _ finC_31).2.1) (g.row (y135_.ref (y135_.ptr ptrC_39) (y135_.2.1 _ finC_31).2.1)).1.2.1 (by decide) (by decide)
                have t458_ : (qN S6_452 (qO S6_452 (qO S6_452 66 0) 8) : Int) = (qN S24_439 (qO S24_439 (qO S24_439 66 0) 8) : Int) := by rw [o455_]; exact q137_.2.kL (j := 8) y135_ (y135_.ref (y135_.ptr ptrC_39) (y135_.2.1 _ finC_31).2.1) (g.row (y135_.ref (y135_.ptr ptrC_39) (y135_.2.1 _ finC_31).2.1)).1.2.2.2.2.2.2 (by decide) (by decide)
                have t459_ : (qN S6_452 (qO S6_452 (qO S6_452 66 0) 7) : Int) = (qN S24_439 (qO S24_439 (qO S24_439 66 0) 7) : Int) := by rw [o455_]; exact q137_.2.kL (j := 7) y135_ (y135_.ref (y135_.ptr ptrC_39) (y135_.2.1 _ finC_31).2.1) (g.row (y135_.ref (y135_.ptr ptrC_39) (y135_.2.1 _ finC_31).2.1)).1.2.2.2.2.2.1 (by decide) (by decide)
                have t460_ : (qN S6_452 (qO S6_452 (qO S6_452 66 0) 0) : Int) = (qN S24_439 (qO S24_439 (qO S24_439 66 0) 0) : Int) := by rw [o455_]; exact q137_.2.kL (j := 0) y135_ (y135_.ref (y135_.ptr ptrC_39) (y135_.2.1 _ finC_31).2.1) (g.row (y135_.ref (y135_.ptr ptrC_39) (y135_.2.1 _ finC_31).2.1)).1.1 (by decide) (by decide)
                have t461_ : (qN S6_452 (qO S6_452 (qO S6_452 66 0) 6) : Int) = (qN S24_439 (qO S24_439 (qO S24_439 66 0) 6) : Int) := by rw [o455_]; exact q137_.2.kL (j := 6) y135_ (y135_.ref (y135_.ptr ptrC_39) (y135_.2.1 _ finC_31).2.1) (g.row (y135_.ref (y135_.ptr ptrC_39) (y135_.2.1 _ finC_31).2.1)).1.2.2.2.2.1 (by decide) (by decide)
                have t462_ : (qN S6_452 (qO S6_452 (qO S6_452 66 0) 3) : Int) = (qN S24_439 (qO S24_439 (qO S24_439 66 0) 3) : Int) := by rw [o455_]; exact q137_.2.kL (j := 3) y135_ (y135_.ref (y135_.ptr ptrC_39) (y135_.2.1 _ finC_31).2.1) (g.row (y135_.ref (y135_.ptr ptrC_39) (y135_.2.1 _ finC_31).2.1)).1.2.2.1 (by decide) (by decide)
                have t463_ : (qN S6_452 (qO S6_452 (qO S6_452 66 0) 5) : Int) = (qN S24_439 (qO S24_439 (qO S24_439 66 0) 5) : Int) := by rw [o455_]; exact q137_.2.kL (j := 5) y135_ (y135_.ref (y135_.ptr ptrC_39) (y135_.2.1 _ finC_31).2.1) (g.row (y135_.ref (y135_.ptr ptrC_39) (y135_.2.1 _ finC_31).2.1)).1.2.2.2.1 (by decide) (by decide)
                have g : ShC B S6_452 := q137_.1.1
                refine ⟨fun c464_ => ?_, fun c464_ => ?_⟩
                · intro a10_465 ea10_465 
                  have ga10_465 := congrArg Int32.toInt ea10_465
                  unfold w_X9_goThrough_J98
                  intro y140_ y141_ y142_
                  intro a8_466 ea8_466 
                  have ga8_466 := congrArg Int32.toInt ea8_466
                  refine ih10 g ?_ ?_ ?_ ?_
                  · have s467_ := (g.row (y140_.ref (y140_.ptr ptrC_39) (y140_.2.1 _ finC_31).2.1)).2
                    have s468_ := g.smk
                    unfold SmK at s468_
                    have n1_ := rgI a8_466
                    have n2_ := rgI v10_5
                    have n3_ := rgI v10_1
                    have n4_ := rgI (qI U10 (qO U10 66 0) 2)
                    have n5_ := rgI v10_4
                    have n6_ := rgI v10_3
                    have n7_ := rgI r5_452
                    have n8_ := rgI a10_465
                    have n10_ := lo_1k
                    have n10_ := t_addD (a := v10_4) (b := Int32.ofInt 1)
                    have n11_ := rgI (v10_4 + Int32.ofInt 1)
                    have n12_ := t_addD (a := v10_5) (b := Int32.ofInt 1)
                    have n13_ := rgI (v10_5 + Int32.ofInt 1)
                    omega
                  · have s469_ := (g.row (y140_.ref (y140_.ptr ptrC_39) (y140_.2.1 _ finC_31).2.1)).2
                    have s470_ := g.smk
                    unfold SmK at s470_
                    have n1_ := rgI v10_1
                    have n2_ := rgI v10_5
                    have n3_ := rgI (qI U10 (qO U10 66 0) 2)
                    have n4_ := rgI v10_4
                    have n5_ := rgI v10_3
                    have n6_ := rgI r5_452
                    have n7_ := rgI a10_465
                    have n9_ := lo_1k
                    have n9_ := t_addD (a := v10_4) (b := Int32.ofInt 1)
                    have n10_ := rgI (v10_4 + Int32.ofInt 1)
                    have n11_ := rgI a8_466
                    have n12_ := t_addD (a := v10_5) (b := Int32.ofInt 1)
                    have n13_ := rgI (v10_5 + Int32.ofInt 1)
                    omega
                  · have s471_ := (g.row (y140_.ref (y140_.ptr ptrC_39) (y140_.2.1 _ finC_31).2.1)).2
                    have s472_ := g.smk
                    unfold SmK at s472_
                    have n1_ := rgI v10_1
                    have n2_ := rgI v10_5
                    have n3_ := rgI (qI U10 (qO U10 66 0) 2)
                    have n4_ := rgI v10_4
                    have n5_ := rgI v10_3
                    have n6_ := rgI r5_452
                    have n7_ := rgI a10_465
                    have n9_ := lo_1k
                    have n9_ := t_addD (a := v10_4) (b := Int32.ofInt 1)
                    have n10_ := rgI (v10_4 + Int32.ofInt 1)
                    have n11_ := rgI a8_466
                    have n12_ := t_addD (a := v10_5) (b := Int32.ofInt 1)
                    have n13_ := rgI (v10_5 + Int32.ofInt 1)
                    omega
                  · have s473_ := (g.row (y140_.ref (y140_.ptr ptrC_39) (y140_.2.1 _ finC_31).2.1)).2
                    have s474_ := g.smk
                    unfold SmK at s474_
                    have n1_ := rgI a8_466
                    have n2_ := rgI v10_5
                    have n3_ := rgI v10_1
                    have n4_ := rgI (qI U10 (qO U10 66 0) 2)
                    have n5_ := rgI v10_4
                    have n6_ := rgI v10_3
                    have n7_ := rgI r5_452
                    have n8_ := rgI a10_465
                    have n10_ := lo_1k
                    have n10_ := t_addD (a := v10_4) (b := Int32.ofInt 1)
                    have n11_ := rgI (v10_4 + Int32.ofInt 1)
                    have n12_ := t_addD (a := v10_5) (b := Int32.ofInt 1)
                    have n13_ := rgI (v10_5 + Int32.ofInt 1)
                    omega
                · refine ⟨?_, ?_⟩
                  · have s475_ := (g.row (y138_.ref (y138_.ptr ptrC_39) (y138_.2.1 _ finC_31).2.1)).2
                    have s476_ := g.smk
                    unfold SmK at s476_
                    have n1_ := rgI v10_1
                    have n2_ := rgI v10_5
                    have n3_ := rgI (qI U10 (qO U10 66 0) 2)
                    have n4_ := rgI v10_4
                    have n5_ := rgI v10_3
                    have n6_ := rgI r5_452
                    omega
                  refine ⟨?_, ?_⟩
                  · have s477_ := (g.row (y138_.ref (y138_.ptr ptrC_39) (y138_.2.1 _ finC_31).2.1)).2
                    have s478_ := g.smk
                    unfold SmK at s478_
                    have n1_ := rgI v10_1
                    have n2_ := rgI v10_5
                    have n3_ := rgI (qI U10 (qO U10 66 0) 2)
                    have n4_ := rgI v10_4
                    have n5_ := rgI v10_3
                    have n6_ := rgI r5_452
                    omega
                  intro S15_479 eS15_479 y143_ y144_
                  have f480_ : cfr [228] [] S6_452 S15_479 := by rw [eS15_479]; exact cfr.aI y143_ (by decide)
                  have o481_ : qO S15_479 66 0 = qO S6_452 66 0 := qO_eq (f480_.kO (y138_.2.1 _ finC_31).2.1 (by decide) (by decide))
                  have t482_ : (qI S15_479 (qO S15_479 66 0) 4).toInt = (qI S6_452 (qO S6_452 66 0) 4).toInt := by rw [o481_]; exact congrArg Int32.toInt (f480_.kI (j := 4) (y138_.ref (y138_.ptr ptrC_39) (y138_.2.1 _ finC_31).2.1) (by decide) (by decide))
                  have t483_ : (qI S15_479 (qO S15_479 66 0) 9).toInt = (qI S6_452 (qO S6_452 66 0) 9).toInt := by rw [o481_]; exact congrArg Int32.toInt (f480_.kI (j := 9) (y138_.ref (y138_.ptr ptrC_39) (y138_.2.1 _ finC_31).2.1) (by decide) (by decide))
                  have t484_ : (qI S15_479 (qO S15_479 66 0) 2).toInt = (qI S6_452 (qO S6_452 66 0) 2).toInt := by rw [o481_]; exact congrArg Int32.toInt (f480_.kI (j := 2) (y138_.ref (y138_.ptr ptrC_39) (y138_.2.1 _ finC_31).2.1) (by decide) (by decide))
                  have t485_ : (qN S15_479 (qO S15_479 (qO S15_479 66 0) 1) : Int) = (qN S6_452 (qO S6_452 (qO S6_452 66 0) 1) : Int) := by rw [o481_]; exact f480_.kL (j := 1) y138_ (y138_.ref (y138_.ptr ptrC_39) (y138_.2.1 _ finC_31).2.1) (g.row (y138_.ref (y138_.ptr ptrC_39) (y138_.2.1 _ finC_31).2.1)).1.2.1 (by decide) (by decide)
                  have t486_ : (qN S15_479 (qO S15_479 (qO S15_479 66 0) 8) : Int) = (qN S6_452 (qO S6_452 (qO S6_452 66 0) 8) : Int) := by rw [o481_]; exact f480_.kL (j := 8) y138_ (y138_.ref (y138_.ptr ptrC_39) (y138_.2.1 _ finC_31).2.1) (g.row (y138_.ref (y138_.ptr ptrC_39) (y138_.2.1 _ finC_31).2.1)).1.2.2.2.2.2.2 (by decide) (by decide)
                  have t487_ : (qN S15_479 (qO S15_479 (qO S15_479 66 0) 7) : Int) = (qN S6_452 (qO S6_452 (qO S6_452 66 0) 7) : Int) := by rw [o481_]; exact f480_.kL (j := 7) y138_ (y138_.ref (y138_.ptr ptrC_39) (y138_.2.1 _ finC_31).2.1) (g.row (y138_.ref (y138_.ptr ptrC_39) (y138_.2.1 _ finC_31).2.1)).1.2.2.2.2.2.1 (by decide) (by decide)
                  have t488_ : (qN S15_479 (qO S15_479 (qO S15_479 66 0) 0) : Int) = (qN S6_452 (qO S6_452 (qO S6_452 66 0) 0) : Int) := by rw [o481_]; exact f480_.kL (j := 0) y138_ (y138_.ref (y138_.ptr ptrC_39) (y138_.2.1 _ finC_31).2.1) (g.row (y138_.ref (y138_.ptr ptrC_39) (y138_.2.1 _ finC_31).2.1)).1.1 (by decide) (by decide)
                  have t489_ : (qN S15_479 (qO S15_479 (qO S15_479 66 0) 6) : Int) = (qN S6_452 (qO S6_452 (qO S6_452 66 0) 6) : Int) := by rw [o481_]; exact f480_.kL (j := 6) y138_ (y138_.ref (y138_.ptr ptrC_39) (y138_.2.1 _ finC_31).2.1) (g.row (y138_.ref (y138_.ptr ptrC_39) (y138_.2.1 _ finC_31).2.1)).1.2.2.2.2.1 (by decide) (by decide)
                  have t490_ : (qN S15_479 (qO S15_479 (qO S15_479 66 0) 3) : Int) = (qN S6_452 (qO S6_452 (qO S6_452 66 0) 3) : Int) := by rw [o481_]; exact f480_.kL (j := 3) y138_ (y138_.ref (y138_.ptr ptrC_39) (y138_.2.1 _ finC_31).2.1) (g.row (y138_.ref (y138_.ptr ptrC_39) (y138_.2.1 _ finC_31).2.1)).1.2.2.1 (by decide) (by decide)
                  have t491_ : (qN S15_479 (qO S15_479 (qO S15_479 66 0) 5) : Int) = (qN S6_452 (qO S6_452 (qO S6_452 66 0) 5) : Int) := by rw [o481_]; exact f480_.kL (j := 5) y138_ (y138_.ref (y138_.ptr ptrC_39) (y138_.2.1 _ finC_31).2.1) (g.row (y138_.ref (y138_.ptr ptrC_39) (y138_.2.1 _ finC_31).2.1)).1.2.2.2.1 (by decide) (by decide)
                  have g : ShC B S15_479 := ShC.ws y138_ g f480_ (by rw [eS15_479]; rfl) (by rw [eS15_479]; rfl) (by rw [eS15_479]; rfl) rfl rfl
                  unfold w_X9_goThrough_J98
                  intro y145_ y146_ y147_
                  intro a8_492 ea8_492 
                  have ga8_492 := congrArg Int32.toInt ea8_492
                  refine ih10 g ?_ ?_ ?_ ?_
                  · have s493_ := (g.row (y145_.ref (y145_.ptr ptrC_39) (y145_.2.1 _ finC_31).2.1)).2
                    have s494_ := g.smk
                    unfold SmK at s494_
                    have n1_ := rgI a8_492
                    have n2_ := rgI v10_5
                    have n3_ := rgI v10_1
                    have n4_ := rgI (qI U10 (qO U10 66 0) 2)
                    have n5_ := rgI v10_4
                    have n6_ := rgI v10_3
                    have n7_ := rgI r5_452
                    have n9_ := lo_1k
                    have n9_ := t_addD (a := v10_5) (b := Int32.ofInt 1)
                    have n10_ := rgI (v10_5 + Int32.ofInt 1)
                    omega
                  · have s495_ := (g.row (y145_.ref (y145_.ptr ptrC_39) (y145_.2.1 _ finC_31).2.1)).2
                    have s496_ := g.smk
                    unfold SmK at s496_
                    have n1_ := rgI v10_1
                    have n2_ := rgI v10_5
                    have n3_ := rgI (qI U10 (qO U10 66 0) 2)
                    have n4_ := rgI v10_4
                    have n5_ := rgI v10_3
                    have n6_ := rgI r5_452
                    have n7_ := rgI a8_492
                    have n9_ := lo_1k
                    have n9_ := t_addD (a := v10_5) (b := Int32.ofInt 1)
                    have n10_ := rgI (v10_5 + Int32.ofInt 1)
                    omega
                  · have s497_ := (g.row (y145_.ref (y145_.ptr ptrC_39) (y145_.2.1 _ finC_31).2.1)).2
                    have s498_ := g.smk
                    unfold SmK at s498_
                    have n1_ := rgI v10_1
                    have n2_ := rgI v10_5
                    have n3_ := rgI (qI U10 (qO U10 66 0) 2)
                    have n4_ := rgI v10_4
                    have n5_ := rgI v10_3
                    have n6_ := rgI r5_452
                    have n7_ := rgI a8_492
                    have n9_ := lo_1k
                    have n9_ := t_addD (a := v10_5) (b := Int32.ofInt 1)
                    have n10_ := rgI (v10_5 + Int32.ofInt 1)
                    omega
                  · have s499_ := (g.row (y145_.ref (y145_.ptr ptrC_39) (y145_.2.1 _ finC_31).2.1)).2
                    have s500_ := g.smk
                    unfold SmK at s500_
                    have n1_ := rgI a8_492
                    have n2_ := rgI v10_5
                    have n3_ := rgI v10_1
                    have n4_ := rgI (qI U10 (qO U10 66 0) 2)
                    have n5_ := rgI v10_4
                    have n6_ := rgI v10_3
                    have n7_ := rgI r5_452
                    have n9_ := lo_1k
                    have n9_ := t_addD (a := v10_5) (b := Int32.ofInt 1)
                    have n10_ := rgI (v10_5 + Int32.ofInt 1)
                    omega
              · refine ⟨fun c501_ => ?_, fun c501_ => ?_⟩
                · unfold w_X9_goThrough_J68
                  intro y148_ y149_
                  refine ⟨_, frX9_isDone y148_ (sgX9_isDone y148_ g (by have s503_ := (g.row (y148_.ref (y148_.ptr ptrC_39) (y148_.2.1 _ finC_31).2.1)).2; have s504_ := g.smk; unfold SmK at s504_; have n1_ := rgI v10_4; have n2_ := rgI v10_5; have n3_ := rgI v10_1; have n4_ := rgI (qI U10 (qO U10 66 0) 2); have n5_ := rgI v10_3; omega)), ?_⟩
                  intro r5_502 S6_502 q150_ y151_ y152_
                  have o505_ : qO S6_502 66 0 = qO S24_439 66 0 := qO_eq (q150_.2.kO (y148_.2.1 _ finC_31).2.1 (by decide) (by decide))
                  have t506_ : (qI S6_502 (qO S6_502 66 0) 4).toInt = (qI S24_439 (qO S24_439 66 0) 4).toInt := by rw [o505_]; exact congrArg Int32.toInt (q150_.2.kI (j := 4) (y148_.ref (y148_.ptr ptrC_39) (y148_.2.1 _ finC_31).2.1) (by decide) (by decide))
                  have t507_ : (qN S6_502 (qO S6_502 (qO S6_502 66 0) 1) : Int) = (qN S24_439 (qO S24_439 (qO S24_439 66 0) 1) : Int) := by rw [o505_]; exact q150_.2.kL (j := 1) y148_ (y148_.ref (y148_.ptr ptrC_39) (y148_.2.1 _ finC_31).2.1) (g.row (y148_.ref (y148_.ptr ptrC_39) (y148_.2.1 _ finC_31).2.1)).1.2.1 (by decide) (by decide)
                  have t508_ : (qN S6_502 (qO S6_502 (qO S6_502 66 0) 8) : Int) = (qN S24_439 (qO S24_439 (qO S24_439 66 0) 8) : Int) := by rw [o505_]; exact q150_.2.kL (j := 8) y148_ (y148_.ref (y148_.ptr ptrC_39) (y148_.2.1 _ finC_31).2.1) (g.row (y148_.ref (y148_.ptr ptrC_39) (y148_.2.1 _ finC_31).2.1)).1.2.2.2.2.2.2 (by decide) (by decide)
                  have t509_ : (qN S6_502 (qO S6_502 (qO S6_502 66 0) 7) : Int) = (qN S24_439 (qO S24_439 (qO S24_439 66 0) 7) : Int) := by rw [o505_]; exact q150_.2.kL (j := 7) y148_ (y148_.ref (y148_.ptr ptrC_39) (y148_.2.1 _ finC_31).2.1) (g.row (y148_.ref (y148_.ptr ptrC_39) (y148_.2.1 _ finC_31).2.1)).1.2.2.2.2.2.1 (by decide) (by decide)
                  have t510_ : (qN S6_502 (qO S6_502 (qO S6_502 66 0) 0) : Int) = (qN S24_439 (qO S24_439 (qO S24_439 66 0) 0) : Int) := by rw [o505_]; exact q150_.2.kL (j := 0) y148_ (y148_.ref (y148_.ptr ptrC_39) (y148_.2.1 _ finC_31).2.1) (g.row (y148_.ref (y148_.ptr ptrC_39) (y148_.2.1 _ finC_31).2.1)).1.1 (by decide) (by decide)
                  have t511_ : (qN S6_502 (qO S6_502 (qO S6_502 66 0) 6) : Int) = (qN S24_439 (qO S24_439 (qO S24_439 66 0) 6) : Int) := by rw [o505_]; exact q150_.2.kL (j := 6) y148_ (y148_.ref (y148_.ptr ptrC_39) (y148_.2.1 _ finC_31).2.1) (g.row (y148_.ref (y148_.ptr ptrC_39) (y148_.2.1 _ finC_31).2.1)).1.2.2.2.2.1 (by decide) (by decide)
                  have t512_ : (qN S6_502 (qO S6_502 (qO S6_502 66 0) 3) : Int) = (qN S24_439 (qO S24_439 (qO S24_439 66 0) 3) : Int) := by rw [o505_]; exact q150_.2.kL (j := 3) y148_ (y148_.ref (y148_.ptr ptrC_39) (y148_.2.1 _ finC_31).2.1) (g.row (y148_.ref (y148_.ptr ptrC_39) (y148_.2.1 _ finC_31).2.1)).1.2.2.1 (by decide) (by decide)
                  have t513_ : (qN S6_502 (qO S6_502 (qO S6_502 66 0) 5) : Int) = (qN S24_439 (qO S24_439 (qO S24_439 66 0) 5) : Int) := by rw [o505_]; exact q150_.2.kL (j := 5) y148_ (y148_.ref (y148_.ptr ptrC_39) (y148_.2.1 _ finC_31).2.1) (g.row (y148_.ref (y148_.ptr ptrC_39) (y148_.2.1 _ finC_31).2.1)).1.2.2.2.1 (by decide) (by decide)
                  have g : ShC B S6_502 := q150_.1.1
                  refine ⟨fun c514_ => ?_, fun c514_ => ?_⟩
                  · intro a10_515 ea10_515 
                    have ga10_515 := congrArg Int32.toInt ea10_515
                    unfold w_X9_goThrough_J98
                    intro y153_ y154_ y155_
                    intro a8_516 ea8_516 
                    have ga8_516 := congrArg Int32.toInt ea8_516
                    refine ih10 g ?_ ?_ ?_ ?_
                    · have s517_ := (g.row (y153_.ref (y153_.ptr ptrC_39) (y153_.2.1 _ finC_31).2.1)).2
                      have s518_ := g.smk
                      unfold SmK at s518_
                      have n1_ := rgI a8_516
                      have n2_ := rgI v10_5
                      have n3_ := rgI v10_1
                      have n4_ := rgI (qI U10 (qO U10 66 0) 2)
                      have n5_ := rgI v10_4
                      have n6_ := rgI v10_3
                      have n7_ := rgI r5_502
                      have n8_ := rgI a10_515
                      have n10_ := lo_1k
                      have n10_ := t_addD (a := v10_4) (b := Int32.ofInt 1)
                      have n11_ := rgI (v10_4 + Int32.ofInt 1)
                      have n12_ := t_addD (a := v10_5) (b := Int32.ofInt 1)
                      have n13_ := rgI (v10_5 + Int32.ofInt 1)
                      omega
                    · have s519_ := (g.row (y153_.ref (y153_.ptr ptrC_39) (y153_.2.1 _ finC_31).2.1)).2
                      have s520_ := g.smk
                      unfold SmK at s520_
                      have n1_ := rgI v10_1
                      have n2_ := rgI v10_5
                      have n3_ := rgI (qI U10 (qO U10 66 0) 2)
                      have n4_ := rgI v10_4
                      have n5_ := rgI v10_3
                      have n6_ := rgI r5_502
                      have n7_ := rgI a10_515
                      have n9_ := lo_1k
                      have n9_ := t_addD (a := v10_4) (b := Int32.ofInt 1)
                      have n10_ := rgI (v10_4 + Int32.ofInt 1)
                      have n11_ := rgI a8_516
                      have n12_ := t_addD (a := v10_5) (b := Int32.ofInt 1)
                      have n13_ := rgI (v10_5 + Int32.ofInt 1)
                      omega
                    · have s521_ := (g.row (y153_.ref (y153_.ptr ptrC_39) (y153_.2.1 _ finC_31).2.1)).2
                      have s522_ := g.smk
                      unfold SmK at s522_
                      have n1_ := rgI v10_1
                      have n2_ := rgI v10_5
                      have n3_ := rgI (qI U10 (qO U10 66 0) 2)
                      have n4_ := rgI v10_4
                      have n5_ := rgI v10_3
                      have n6_ := rgI r5_502
                      have n7_ := rgI a10_515
                      have n9_ := lo_1k
                      have n9_ := t_addD (a := v10_4) (b := Int32.ofInt 1)
                      have n10_ := rgI (v10_4 + Int32.ofInt 1)
                      have n11_ := rgI a8_516
                      have n12_ := t_addD (a := v10_5) (b := Int32.ofInt 1)
                      have n13_ := rgI (v10_5 + Int32.ofInt 1)
                      omega
                    · have s523_ := (g.row (y153_.ref (y153_.ptr ptrC_39) (y153_.2.1 _ finC_31).2.1)).2
                      have s524_ := g.smk
                      unfold SmK at s524_
                      have n1_ := rgI a8_516
                      have n2_ := rgI v10_5
                      have n3_ := rgI v10_1
                      have n4_ := rgI (qI U10 (qO U10 66 0) 2)
                      have n5_ := rgI v10_4
                      have n6_ := rgI v10_3
                      have n7_ := rgI r5_502
                      have n8_ := rgI a10_515
                      have n10_ := lo_1k
                      have n10_ := t_addD (a := v10_4) (b := Int32.ofInt 1)
                      have n11_ := rgI (v10_4 + Int32.ofInt 1)
                      have n12_ := t_addD (a := v10_5) (b := Int32.ofInt 1)
                      have n13_ := rgI (v10_5 + Int32.ofInt 1)
                      omega
                  · refine ⟨?_, ?_⟩
                    · have s525_ := (g.row (y151_.ref (y151_.ptr ptrC_39) (y151_.2.1 _ finC_31).2.1)).2
                      have s526_ := g.smk
                      unfold SmK at s526_
                      have n1_ := rgI v10_1
                      have n2_ := rgI v10_5
                      have n3_ := rgI (qI U10 (qO U10 66 0) 2)
                      have n4_ := rgI v10_4
                      have n5_ := rgI v10_3
                      have n6_ := rgI r5_502
                      omega
                    refine ⟨?_, ?_⟩
                    · have s527_ := (g.row (y151_.ref (y151_.ptr ptrC_39) (y151_.2.1 _ finC_31).2.1)).2
                      have s528_ := g.smk
                      unfold SmK at s528_
                      have n1_ := rgI v10_1
                      have n2_ := rgI v10_5
                      have n3_ := rgI (qI U10 (qO U10 66 0) 2)
                      have n4_ := rgI v10_4
                      have n5_ := rgI v10_3
                      have n6_ := rgI r5_502
                      omega
                    intro S15_529 eS15_529 y156_ y157_
                    have f530_ : cfr [228] [] S6_502 S15_529 := by rw [eS15_529]; exact cfr.aI y156_ (by decide)
                    have o531_ : qO S15_529 66 0 = qO S6_502 66 0 := qO_eq (f530_.kO (y151_.2.1 _ finC_31).2.1 (by decide) (by decide))
                    have t532_ : (qI S15_529 (qO S15_529 66 0) 4).toInt = (qI S6_502 (qO S6_502 66 0) 4).toInt := by rw [o531_]; exact congrArg Int32.toInt (f530_.kI (j := 4) (y151_.ref (y151_.ptr ptrC_39) (y151_.2.1 _ finC_31).2.1) (by decide) (by decide))
                    have t533_ : (qI S15_529 (qO S15_529 66 0) 9).toInt = (qI S6_502 (qO S6_502 66 0) 9).toInt := by rw [o531_]; exact congrArg Int32.toInt (f530_.kI (j := 9) (y151_.ref (y151_.ptr ptrC_39) (y151_.2.1 _ finC_31).2.1) (by decide) (by decide))
                    have t534_ : (qI S15_529 (qO S15_529 66 0) 2).toInt = (qI S6_502 (qO S6_502 66 0) 2).toInt := by rw [o531_]; exact congrArg Int32.toInt (f530_.kI (j := 2) (y151_.ref (y151_.ptr ptrC_39) (y151_.2.1 _ finC_31).2.1) (by decide) (by decide))
                    have t535_ : (qN S15_529 (qO S15_529 (qO S15_529 66 0) 1) : Int) = (qN S6_502 (qO S6_502 (qO S6_502 66 0) 1) : Int) := by rw [o531_]; exact f530_.kL (j := 1) y151_ (y151_.ref (y151_.ptr ptrC_39) (y151_.2.1 _ finC_31).2.1) (g.row (y151_.ref (y151_.ptr ptrC_39) (y151_.2.1 _ finC_31).2.1)).1.2.1 (by decide) (by decide)
                    have t536_ : (qN S15_529 (qO S15_529 (qO S15_529 66 0) 8) : Int) = (qN S6_502 (qO S6_502 (qO S6_502 66 0) 8) : Int) := by rw [o531_]; exact f530_.kL (j := 8) y151_ (y151_.ref (y151_.ptr ptrC_39) (y151_.2.1 _ finC_31).2.1) (g.row (y151_.ref (y151_.ptr ptrC_39) (y151_.2.1 _ finC_31).2.1)).1.2.2.2.2.2.2 (by decide) (by decide)
                    have t537_ : (qN S15_529 (qO S15_529 (qO S15_529 66 0) 7) : Int) = (qN S6_502 (qO S6_502 (qO S6_502 66 0) 7) : Int) := by rw [o531_]; exact f530_.kL (j := 7) y151_ (y151_.ref (y151_.ptr ptrC_39) (y151_.2.1 _ finC_31).2.1) (g.row (y151_.ref (y151_.ptr ptrC_39) (y151_.2.1 _ finC_31).2.1)).1.2.2.2.2.2.1 (by decide) (by decide)
                    have t538_ : (qN S15_529 (qO S15_529 (qO S15_529 66 0) 0) : Int) = (qN S6_502 (qO S6_502 (qO S6_502 66 0) 0) : Int) := by rw [o531_]; exact f530_.kL (j := 0) y151_ (y151_.ref (y151_.ptr ptrC_39) (y151_.2.1 _ finC_31).2.1) (g.row (y151_.ref (y151_.ptr ptrC_39) (y151_.2.1 _ finC_31).2.1)).1.1 (by decide) (by decide)
                    have t539_ : (qN S15_529 (qO S15_529 (qO S15_529 66 0) 6) : Int) = (qN S6_502 (qO S6_502 (qO S6_502 66 0) 6) : Int) := by rw [o531_]; exact f530_.kL (j := 6) y151_ (y151_.ref (y151_.ptr ptrC_39) (y151_.2.1 _ finC_31).2.1) (g.row (y151_.ref (y151_.ptr ptrC_39) (y151_.2.1 _ finC_31).2.1)).1.2.2.2.2.1 (by decide) (by decide)
                    have t540_ : (qN S15_529 (qO S15_529 (qO S15_529 66 0) 3) : Int) = (qN S6_502 (qO S6_502 (qO S6_502 66 0) 3) : Int) := by rw [o531_]; exact f530_.kL (j := 3) y151_ (y151_.ref (y151_.ptr ptrC_39) (y151_.2.1 _ finC_31).2.1) (g.row (y151_.ref (y151_.ptr ptrC_39) (y151_.2.1 _ finC_31).2.1)).1.2.2.1 (by decide) (by decide)
                    have t541_ : (qN S15_529 (qO S15_529 (qO S15_529 66 0) 5) : Int) = (qN S6_502 (qO S6_502 (qO S6_502 66 0) 5) : Int) := by rw [o531_]; exact f530_.kL (j := 5) y151_ (y151_.ref (y151_.ptr ptrC_39) (y151_.2.1 _ finC_31).2.1) (g.row (y151_.ref (y151_.ptr ptrC_39) (y151_.2.1 _ finC_31).2.1)).1.2.2.2.1 (by decide) (by decide)
                    have g : ShC B S15_529 := ShC.ws y151_ g f530_ (by rw [eS15_529]; rfl) (by rw [eS15_529]; rfl) (by rw [eS15_529]; rfl) rfl rfl
                    unfold w_X9_goThrough_J98
                    intro y158_ y159_ y160_
                    intro a8_542 ea8_542 
                    have ga8_542 := congrArg Int32.toInt ea8_542
                    refine ih10 g ?_ ?_ ?_ ?_
                    · have s543_ := (g.row (y158_.ref (y158_.ptr ptrC_39) (y158_.2.1 _ finC_31).2.1)).2
                      have s544_ := g.smk
                      unfold SmK at s544_
                      have n1_ := rgI a8_542
                      have n2_ := rgI v10_5
                      have n3_ := rgI v10_1
                      have n4_ := rgI (qI U10 (qO U10 66 0) 2)
                      have n5_ := rgI v10_4
                      have n6_ := rgI v10_3
                      have n7_ := rgI r5_502
                      have n9_ := lo_1k
                      have n9_ := t_addD (a := v10_5) (b := Int32.ofInt 1)
                      have n10_ := rgI (v10_5 + Int32.ofInt 1)
                      omega
                    · have s545_ := (g.row (y158_.ref (y158_.ptr ptrC_39) (y158_.2.1 _ finC_31).2.1)).2
                      have s546_ := g.smk
                      unfold SmK at s546_
                      have n1_ := rgI v10_1
                      have n2_ := rgI v10_5
                      have n3_ := rgI (qI U10 (qO U10 66 0) 2)
                      have n4_ := rgI v10_4
                      have n5_ := rgI v10_3
                      have n6_ := rgI r5_502
                      have n7_ := rgI a8_542
                      have n9_ := lo_1k
                      have n9_ := t_addD (a := v10_5) (b := Int32.ofInt 1)
                      have n10_ := rgI (v10_5 + Int32.ofInt 1)
                      omega
                    · have s547_ := (g.row (y158_.ref (y158_.ptr ptrC_39) (y158_.2.1 _ finC_31).2.1)).2
                      have s548_ := g.smk
                      unfold SmK at s548_
                      have n1_ := rgI v10_1
                      have n2_ := rgI v10_5
                      have n3_ := rgI (qI U10 (qO U10 66 0) 2)
                      have n4_ := rgI v10_4
                      have n5_ := rgI v10_3
                      have n6_ := rgI r5_502
                      have n7_ := rgI a8_542
                      have n9_ := lo_1k
                      have n9_ := t_addD (a := v10_5) (b := Int32.ofInt 1)
                      have n10_ := rgI (v10_5 + Int32.ofInt 1)
                      omega
                    · have s549_ := (g.row (y158_.ref (y158_.ptr ptrC_39) (y158_.2.1 _ finC_31).2.1)).2
                      have s550_ := g.smk
                      unfold SmK at s550_
                      have n1_ := rgI a8_542
                      have n2_ := rgI v10_5
                      have n3_ := rgI v10_1
                      have n4_ := rgI (qI U10 (qO U10 66 0) 2)
                      have n5_ := rgI v10_4
                      have n6_ := rgI v10_3
                      have n7_ := rgI r5_502
                      have n9_ := lo_1k
                      have n9_ := t_addD (a := v10_5) (b := Int32.ofInt 1)
                      have n10_ := rgI (v10_5 + Int32.ofInt 1)
                      omega
                · refine ⟨fun c551_ => ?_, fun c551_ => ?_⟩
                  · unfold w_X9_goThrough_J68
                    intro y161_ y162_
                    refine ⟨_, frX9_isDone y161_ (sgX9_isDone y161_ g (by have s553_ := (g.row (y161_.ref (y161_.ptr ptrC_39) (y161_.2.1 _ finC_31).2.1)).2; have s554_ := g.smk; unfold SmK at s554_; have n1_ := rgI v10_4; have n2_ := rgI v10_5; have n3_ := rgI v10_1; have n4_ := rgI (qI U10 (qO U10 66 0) 2); have n5_ := rgI v10_3; omega)), ?_⟩
                    intro r5_552 S6_552 q163_ y164_ y165_
                    have o555_ : qO S6_552 66 0 = qO S24_439 66 0 := qO_eq (q163_.2.kO (y161_.2.1 _ finC_31).2.1 (by decide) (by decide))
                    have t556_ : (qI S6_552 (qO S6_552 66 0) 4).toInt = (qI S24_439 (qO S24_439 66 0) 4).toInt := by rw [o555_]; exact congrArg Int32.toInt (q163_.2.kI (j := 4) (y161_.ref (y161_.ptr ptrC_39) (y161_.2.1 _ finC_31).2.1) (by decide) (by decide))
                    have t557_ : (qN S6_552 (qO S6_552 (qO S6_552 66 0) 1) : Int) = (qN S24_439 (qO S24_439 (qO S24_439 66 0) 1) : Int) := by rw [o555_]; exact q163_.2.kL (j := 1) y161_ (y161_.ref (y161_.ptr ptrC_39) (y161_.2.1 _ finC_31).2.1) (g.row (y161_.ref (y161_.ptr ptrC_39) (y161_.2.1 _ finC_31).2.1)).1.2.1 (by decide) (by decide)
                    have t558_ : (qN S6_552 (qO S6_552 (qO S6_552 66 0) 8) : Int) = (qN S24_439 (qO S24_439 (qO S24_439 66 0) 8) : Int) := by rw [o555_]; exact q163_.2.kL (j := 8) y161_ (y161_.ref (y161_.ptr ptrC_39) (y161_.2.1 _ finC_31).2.1) (g.row (y161_.ref (y161_.ptr ptrC_39) (y161_.2.1 _ finC_31).2.1)).1.2.2.2.2.2.2 (by decide) (by decide)
                    have t559_ : (qN S6_552 (qO S6_552 (qO S6_552 66 0) 7) : Int) = (qN S24_439 (qO S24_439 (qO S24_439 66 0) 7) : Int) := by rw [o555_]; exact q163_.2.kL (j := 7) y161_ (y161_.ref (y161_.ptr ptrC_39) (y161_.2.1 _ finC_31).2.1) (g.row (y161_.ref (y161_.ptr ptrC_39) (y161_.2.1 _ finC_31).2.1)).1.2.2.2.2.2.1 (by decide) (by decide)
                    have t560_ : (qN S6_552 (qO S6_552 (qO S6_552 66 0) 0) : Int) = (qN S24_439 (qO S24_439 (qO S24_439 66 0) 0) : Int) := by rw [o555_]; exact q163_.2.kL (j := 0) y161_ (y161_.ref (y161_.ptr ptrC_39) (y161_.2.1 _ finC_31).2.1) (g.row (y161_.ref (y161_.ptr ptrC_39) (y161_.2.1 _ finC_31).2.1)).1.1 (by decide) (by decide)
                    have t561_ : (qN S6_552 (qO S6_552 (qO S6_552 66 0) 6) : Int) = (qN S24_439 (qO S24_439 (qO S24_439 66 0) 6) : Int) := by rw [o555_]; exact q163_.2.kL (j := 6) y161_ (y161_.ref (y161_.ptr ptrC_39) (y161_.2.1 _ finC_31).2.1) (g.row (y161_.ref (y161_.ptr ptrC_39) (y161_.2.1 _ finC_31).2.1)).1.2.2.2.2.1 (by decide) (by decide)
                    have t562_ : (qN S6_552 (qO S6_552 (qO S6_552 66 0) 3) : Int) = (qN S24_439 (qO S24_439 (qO S24_439 66 0) 3) : Int) := by rw [o555_]; exact q163_.2.kL (j := 3) y161_ (y161_.ref (y161_.ptr ptrC_39) (y161_.2.1 _ finC_31).2.1) (g.row (y161_.ref (y161_.ptr ptrC_39) (y161_.2.1 _ finC_31).2.1)).1.2.2.1 (by decide) (by decide)
                    have t563_ : (qN S6_552 (qO S6_552 (qO S6_552 66 0) 5) : Int) = (qN S24_439 (qO S24_439 (qO S24_439 66 0) 5) : Int) := by rw [o555_]; exact q163_.2.kL (j := 5) y161_ (y161_.ref (y161_.ptr ptrC_39) (y161_.2.1 _ finC_31).2.1) (g.row (y161_.ref (y161_.ptr ptrC_39) (y161_.2.1 _ finC_31).2.1)).1.2.2.2.1 (by decide) (by decide)
                    have g : ShC B S6_552 := q163_.1.1
                    refine ⟨fun c564_ => ?_, fun c564_ => ?_⟩
                    · intro a10_565 ea10_565 
                      have ga10_565 := congrArg Int32.toInt ea10_565
                      unfold w_X9_goThrough_J98
                      intro y166_ y167_ y168_
                      intro a8_566 ea8_566 
                      have ga8_566 := congrArg Int32.toInt ea8_566
                      refine ih10 g ?_ ?_ ?_ ?_
                      · have s567_ := (g.row (y166_.ref (y166_.ptr ptrC_39) (y166_.2.1 _ finC_31).2.1)).2
                        have s568_ := g.smk
                        unfold SmK at s568_
                        have n1_ := rgI a8_566
                        have n2_ := rgI v10_5
                        have n3_ := rgI v10_1
                        have n4_ := rgI (qI U10 (qO U10 66 0) 2)
                        have n5_ := rgI v10_4
                        have n6_ := rgI v10_3
                        have n7_ := rgI r5_552
                        have n8_ := rgI a10_565
                        have n10_ := lo_1k
                        have n10_ := t_addD (a := v10_4) (b := Int32.ofInt 1)
                        have n11_ := rgI (v10_4 + Int32.ofInt 1)
                        have n12_ := t_addD (a := v10_5) (b := Int32.ofInt 1)
                        have n13_ := rgI (v10_5 + Int32.ofInt 1)
                        omega
                      · have s569_ := (g.row (y166_.ref (y166_.ptr ptrC_39) (y166_.2.1 _ finC_31).2.1)).2
                        have s570_ := g.smk
                        unfold SmK at s570_
                        have n1_ := rgI v10_1
                        have n2_ := rgI v10_5
                        have n3_ := rgI (qI U10 (qO U10 66 0) 2)
                        have n4_ := rgI v10_4
                        have n5_ := rgI v10_3
                        have n6_ := rgI r5_552
                        have n7_ := rgI a10_565
                        have n9_ := lo_1k
                        have n9_ := t_addD (a := v10_4) (b := Int32.ofInt 1)
                        have n10_ := rgI (v10_4 + Int32.ofInt 1)
                        have n11_ := rgI a8_566
                        have n12_ := t_addD (a := v10_5) (b := Int32.ofInt 1)
                        have n13_ := rgI (v10_5 + Int32.ofInt 1)
                        omega
                      · have s571_ := (g.row (y166_.ref (y166_.ptr ptrC_39) (y166_.2.1 _ finC_31).2.1)).2
                        have s572_ := g.smk
                        unfold SmK at s572_
                        have n1_ := rgI v10_1
                        have n2_ := rgI v10_5
                        have n3_ := rgI (qI U10 (qO U10 66 0) 2)
                        have n4_ := rgI v10_4
                        have n5_ := rgI v10_3
                        have n6_ := rgI r5_552
                        have n7_ := rgI a10_565
                        have n9_ := lo_1k
                        have n9_ := t_addD (a := v10_4) (b := Int32.ofInt 1)
                        have n10_ := rgI (v10_4 + Int32.ofInt 1)
                        have n11_ := rgI a8_566
                        have n12_ := t_addD (a := v10_5) (b := Int32.ofInt 1)
                        have n13_ := rgI (v10_5 + Int32.ofInt 1)
                        omega
                      · have s573_ := (g.row (y166_.ref (y166_.ptr ptrC_39) (y166_.2.1 _ finC_31).2.1)).2
                        have s574_ := g.smk
                        unfold SmK at s574_
                        have n1_ := rgI a8_566
                        have n2_ := rgI v10_5
                        have n3_ := rgI v10_1
                        have n4_ := rgI (qI U10 (qO U10 66 0) 2)
                        have n5_ := rgI v10_4
                        have n6_ := rgI v10_3
                        have n7_ := rgI r5_552
                        have n8_ := rgI a10_565
                        have n10_ := lo_1k
                        have n10_ := t_addD (a := v10_4) (b := Int32.ofInt 1)
                        have n11_ := rgI (v10_4 + Int32.ofInt 1)
                        have n12_ := t_addD (a := v10_5) (b := Int32.ofInt 1)
                        have n13_ := rgI (v10_5 + Int32.ofInt 1)
                        omega
                    · refine ⟨?_, ?_⟩
                      · have s575_ := (g.row (y164_.ref (y164_.ptr ptrC_39) (y164_.2.1 _ finC_31).2.1)).2
                        have s576_ := g.smk
                        unfold SmK at s576_
                        have n1_ := rgI v10_1
                        have n2_ := rgI v10_5
                        have n3_ := rgI (qI U10 (qO U10 66 0) 2)
                        have n4_ := rgI v10_4
                        have n5_ := rgI v10_3
                        have n6_ := rgI r5_552
                        omega
                      refine ⟨?_, ?_⟩
                      · have s577_ := (g.row (y164_.ref (y164_.ptr ptrC_39) (y164_.2.1 _ finC_31).2.1)).2
                        have s578_ := g.smk
                        unfold SmK at s578_
                        have n1_ := rgI v10_1
                        have n2_ := rgI v10_5
                        have n3_ := rgI (qI U10 (qO U10 66 0) 2)
                        have n4_ := rgI v10_4
                        have n5_ := rgI v10_3
                        have n6_ := rgI r5_552
                        omega
                      intro S15_579 eS15_579 y169_ y170_
                      have f580_ : cfr [228] [] S6_552 S15_579 := by rw [eS15_579]; exact cfr.aI y169_ (by decide)
                      have o581_ : qO S15_579 66 0 = qO S6_552 66 0 := qO_eq (f580_.kO (y164_.2.1 _ finC_31).2.1 (by decide) (by decide))
                      have t582_ : (qI S15_579 (qO S15_579 66 0) 4).toInt = (qI S6_552 (qO S6_552 66 0) 4).toInt := by rw [o581_]; exact congrArg Int32.toInt (f580_.kI (j := 4) (y164_.ref (y164_.ptr ptrC_39) (y164_.2.1 _ finC_31).2.1) (by decide) (by decide))
                      have t583_ : (qI S15_579 (qO S15_579 66 0) 9).toInt = (qI S6_552 (qO S6_552 66 0) 9).toInt := by rw [o581_]; exact congrArg Int32.toInt (f580_.kI (j := 9) (y164_.ref (y164_.ptr ptrC_39) (y164_.2.1 _ finC_31).2.1) (by decide) (by decide))
                      have t584_ : (qI S15_579 (qO S15_579 66 0) 2).toInt = (qI S6_552 (qO S6_552 66 0) 2).toInt := by rw [o581_]; exact congrArg Int32.toInt (f580_.kI (j := 2) (y164_.ref (y164_.ptr ptrC_39) (y164_.2.1 _ finC_31).2.1) (by decide) (by decide))
                      have t585_ : (qN S15_579 (qO S15_579 (qO S15_579 66 0) 1) : Int) = (qN S6_552 (qO S6_552 (qO S6_552 66 0) 1) : Int) := by rw [o581_]; exact f580_.kL (j := 1) y164_ (y164_.ref (y164_.ptr ptrC_39) (y164_.2.1 _ finC_31).2.1) (g.row (y164_.ref (y164_.ptr ptrC_39) (y164_.2.1 _ finC_31).2.1)).1.2.1 (by decide) (by decide)
                      have t586_ : (qN S15_579 (qO S15_579 (qO S15_579 66 0) 8) : Int) = (qN S6_552 (qO S6_552 (qO S6_552 66 0) 8) : Int) := by rw [o581_]; exact f580_.kL (j := 8) y164_ (y164_.ref (y164_.ptr ptrC_39) (y164_.2.1 _ finC_31).2.1) (g.row (y164_.ref (y164_.ptr ptrC_39) (y164_.2.1 _ finC_31).2.1)).1.2.2.2.2.2.2 (by decide) (by decide)
                      have t587_ : (qN S15_579 (qO S15_579 (qO S15_579 66 0) 7) : Int) = (qN S6_552 (qO S6_552 (qO S6_552 66 0) 7) : Int) := by rw [o581_]; exact f580_.kL (j := 7) y164_ (y164_.ref (y164_.ptr ptrC_39) (y164_.2.1 _ finC_31).2.1) (g.row (y164_.ref (y164_.ptr ptrC_39) (y164_.2.1 _ finC_31).2.1)).1.2.2.2.2.2.1 (by decide) (by decide)
                      have t588_ : (qN S15_579 (qO S15_579 (qO S15_579 66 0) 0) : Int) = (qN S6_552 (qO S6_552 (qO S6_552 66 0) 0) : Int) := by rw [o581_]; exact f580_.kL (j := 0) y164_ (y164_.ref (y164_.ptr ptrC_39) (y164_.2.1 _ finC_31).2.1) (g.row (y164_.ref (y164_.ptr ptrC_39) (y164_.2.1 _ finC_31).2.1)).1.1 (by decide) (by decide)
                      have t589_ : (qN S15_579 (qO S15_579 (qO S15_579 66 0) 6) : Int) = (qN S6_552 (qO S6_552 (qO S6_552 66 0) 6) : Int) := by rw [o581_]; exact f580_.kL (j := 6) y164_ (y164_.ref (y164_.ptr ptrC_39) (y164_.2.1 _ finC_31).2.1) (g.row (y164_.ref (y164_.ptr ptrC_39) (y164_.2.1 _ finC_31).2.1)).1.2.2.2.2.1 (by decide) (by decide)
                      have t590_ : (qN S15_579 (qO S15_579 (qO S15_579 66 0) 3) : Int) = (qN S6_552 (qO S6_552 (qO S6_552 66 0) 3) : Int) := by rw [o581_]; exact f580_.kL (j := 3) y164_ (y164_.ref (y164_.ptr ptrC_39) (y164_.2.1 _ finC_31).2.1) (g.row (y164_.ref (y164_.ptr ptrC_39) (y164_.2.1 _ finC_31).2.1)).1.2.2.1 (by decide) (by decide)
                      have t591_ : (qN S15_579 (qO S15_579 (qO S15_579 66 0) 5) : Int) = (qN S6_552 (qO S6_552 (qO S6_552 66 0) 5) : Int) := by rw [o581_]; exact f580_.kL (j := 5) y164_ (y164_.ref (y164_.ptr ptrC_39) (y164_.2.1 _ finC_31).2.1) (g.row (y164_.ref (y164_.ptr ptrC_39) (y164_.2.1 _ finC_31).2.1)).1.2.2.2.1 (by decide) (by decide)
                      have g : ShC B S15_579 := ShC.ws y164_ g f580_ (by rw [eS15_579]; rfl) (by rw [eS15_579]; rfl) (by rw [eS15_579]; rfl) rfl rfl
                      unfold w_X9_goThrough_J98
                      intro y171_ y172_ y173_
                      intro a8_592 ea8_592 
                      have ga8_592 := congrArg Int32.toInt ea8_592
                      refine ih10 g ?_ ?_ ?_ ?_
                      · have s593_ := (g.row (y171_.ref (y171_.ptr ptrC_39) (y171_.2.1 _ finC_31).2.1)).2
                        have s594_ := g.smk
                        unfold SmK at s594_
                        have n1_ := rgI a8_592
                        have n2_ := rgI v10_5
                        have n3_ := rgI v10_1
                        have n4_ := rgI (qI U10 (qO U10 66 0) 2)
                        have n5_ := rgI v10_4
                        have n6_ := rgI v10_3
                        have n7_ := rgI r5_552
                        have n9_ := lo_1k
                        have n9_ := t_addD (a := v10_5) (b := Int32.ofInt 1)
                        have n10_ := rgI (v10_5 + Int32.ofInt 1)
                        omega
                      · have s595_ := (g.row (y171_.ref (y171_.ptr ptrC_39) (y171_.2.1 _ finC_31).2.1)).2
                        have s596_ := g.smk
                        unfold SmK at s596_
                        have n1_ := rgI v10_1
                        have n2_ := rgI v10_5
                        have n3_ := rgI (qI U10 (qO U10 66 0) 2)
                        have n4_ := rgI v10_4
                        have n5_ := rgI v10_3
                        have n6_ := rgI r5_552
                        have n7_ := rgI a8_592
                        have n9_ := lo_1k
                        have n9_ := t_addD (a := v10_5) (b := Int32.ofInt 1)
                        have n10_ := rgI (v10_5 + Int32.ofInt 1)
                        omega
                      · have s597_ := (g.row (y171_.ref (y171_.ptr ptrC_39) (y171_.2.1 _ finC_31).2.1)).2
                        have s598_ := g.smk
                        unfold SmK at s598_
                        have n1_ := rgI v10_1
                        have n2_ := rgI v10_5
                        have n3_ := rgI (qI U10 (qO U10 66 0) 2)
                        have n4_ := rgI v10_4
                        have n5_ := rgI v10_3
                        have n6_ := rgI r5_552
                        have n7_ := rgI a8_592
                        have n9_ := lo_1k
                        have n9_ := t_addD (a := v10_5) (b := Int32.ofInt 1)
                        have n10_ := rgI (v10_5 + Int32.ofInt 1)
                        omega
                      · have s599_ := (g.row (y171_.ref (y171_.ptr ptrC_39) (y171_.2.1 _ finC_31).2.1)).2
                        have s600_ := g.smk
                        unfold SmK at s600_
                        have n1_ := rgI a8_592
                        have n2_ := rgI v10_5
                        have n3_ := rgI v10_1
                        have n4_ := rgI (qI U10 (qO U10 66 0) 2)
                        have n5_ := rgI v10_4
                        have n6_ := rgI v10_3
                        have n7_ := rgI r5_552
                        have n9_ := lo_1k
                        have n9_ := t_addD (a := v10_5) (b := Int32.ofInt 1)
                        have n10_ := rgI (v10_5 + Int32.ofInt 1)
                        omega
                  · refine ⟨_, frX9_findMarked y132_ (sgX9_findMarked y132_ g), ?_⟩
                    intro S20_601 q174_ y175_ y176_
                    have o602_ : qO S20_601 66 0 = qO S24_439 66 0 := qO_eq (q174_.2.kO (y132_.2.1 _ finC_31).2.1 (by decide) (by decide))
                    have t603_ : (qI S20_601 (qO S20_601 66 0) 4).toInt = (qI S24_439 (qO S24_439 66 0) 4).toInt := by rw [o602_]; exact congrArg Int32.toInt (q174_.2.kI (j := 4) (y132_.ref (y132_.ptr ptrC_39) (y132_.2.1 _ finC_31).2.1) (by decide) (by decide))
                    have t604_ : (qI S20_601 (qO S20_601 66 0) 9).toInt = (qI S24_439 (qO S24_439 66 0) 9).toInt := by rw [o602_]; exact congrArg Int32.toInt (q174_.2.kI (j := 9) (y132_.ref (y132_.ptr ptrC_39) (y132_.2.1 _ finC_31).2.1) (by decide) (by decide))
                    have t605_ : (qI S20_601 (qO S20_601 66 0) 2).toInt = (qI S24_439 (qO S24_439 66 0) 2).toInt := by rw [o602_]; exact congrArg Int32.toInt (q174_.2.kI (j := 2) (y132_.ref (y132_.ptr ptrC_39) (y132_.2.1 _ finC_31).2.1) (by decide) (by decide))
                    have t606_ : (qN S20_601 (qO S20_601 (qO S20_601 66 0) 1) : Int) = (qN S24_439 (qO S24_439 (qO S24_439 66 0) 1) : Int) := by rw [o602_]; exact q174_.2.kL (j := 1) y132_ (y132_.ref (y132_.ptr ptrC_39) (y132_.2.1 _ finC_31).2.1) (g.row (y132_.ref (y132_.ptr ptrC_39) (y132_.2.1 _ finC_31).2.1)).1.2.1 (by decide) (by decide)
                    have t607_ : (qN S20_601 (qO S20_601 (qO S20_601 66 0) 8) : Int) = (qN S24_439 (qO S24_439 (qO S24_439 66 0) 8) : Int) := by rw [o602_]; exact q174_.2.kL (j := 8) y132_ (y132_.ref (y132_.ptr ptrC_39) (y132_.2.1 _ finC_31).2.1) (g.row (y132_.ref (y132_.ptr ptrC_39) (y132_.2.1 _ finC_31).2.1)).1.2.2.2.2.2.2 (by decide) (by decide)
                    have t608_ : (qN S20_601 (qO S20_601 (qO S20_601 66 0) 7) : Int) = (qN S24_439 (qO S24_439 (qO S24_439 66 0) 7) : Int) := by rw [o602_]; exact q174_.2.kL (j := 7) y132_ (y132_.ref (y132_.ptr ptrC_39) (y132_.2.1 _ finC_31).2.1) (g.row (y132_.ref (y132_.ptr ptrC_39) (y132_.2.1 _ finC_31).2.1)).1.2.2.2.2.2.1 (by decide) (by decide)
                    have t609_ : (qN S20_601 (qO S20_601 (qO S20_601 66 0) 0) : Int) = (qN S24_439 (qO S24_439 (qO S24_439 66 0) 0) : Int) := by rw [o602_]; exact q174_.2.kL (j := 0) y132_ (y132_.ref (y132_.ptr ptrC_39) (y132_.2.1 _ finC_31).2.1) (g.row (y132_.ref (y132_.ptr ptrC_39) (y132_.2.1 _ finC_31).2.1)).1.1 (by decide) (by decide)
                    have t610_ : (qN S20_601 (qO S20_601 (qO S20_601 66 0) 6) : Int) = (qN S24_439 (qO S24_439 (qO S24_439 66 0) 6) : Int) := by rw [o602_]; exact q174_.2.kL (j := 6) y132_ (y132_.ref (y132_.ptr ptrC_39) (y132_.2.1 _ finC_31).2.1) (g.row (y132_.ref (y132_.ptr ptrC_39) (y132_.2.1 _ finC_31).2.1)).1.2.2.2.2.1 (by decide) (by decide)
                    have t611_ : (qN S20_601 (qO S20_601 (qO S20_601 66 0) 3) : Int) = (qN S24_439 (qO S24_439 (qO S24_439 66 0) 3) : Int) := by rw [o602_]; exact q174_.2.kL (j := 3) y132_ (y132_.ref (y132_.ptr ptrC_39) (y132_.2.1 _ finC_31).2.1) (g.row (y132_.ref (y132_.ptr ptrC_39) (y132_.2.1 _ finC_31).2.1)).1.2.2.1 (by decide) (by decide)
                    have t612_ : (qN S20_601 (qO S20_601 (qO S20_601 66 0) 5) : Int) = (qN S24_439 (qO S24_439 (qO S24_439 66 0) 5) : Int) := by rw [o602_]; exact q174_.2.kL (j := 5) y132_ (y132_.ref (y132_.ptr ptrC_39) (y132_.2.1 _ finC_31).2.1) (g.row (y132_.ref (y132_.ptr ptrC_39) (y132_.2.1 _ finC_31).2.1)).1.2.2.2.1 (by decide) (by decide)
                    have g : ShC B S20_601 := q174_.1.1
                    unfold w_X9_goThrough_J68
                    intro y177_ y178_
                    refine ⟨_, frX9_isDone y177_ (sgX9_isDone y177_ g (by have s614_ := (g.row (y177_.ref (y177_.ptr ptrC_39) (y177_.2.1 _ finC_31).2.1)).2; have s615_ := g.smk; unfold SmK at s615_; have n1_ := rgI v10_4; have n2_ := rgI v10_5; have n3_ := rgI v10_1; have n4_ := rgI (qI U10 (qO U10 66 0) 2); have n5_ := rgI v10_3; omega)), ?_⟩
                    intro r5_613 S6_613 q179_ y180_ y181_
                    have o616_ : qO S6_613 66 0 = qO S20_601 66 0 := qO_eq (q179_.2.kO (y177_.2.1 _ finC_31).2.1 (by decide) (by decide))
                    have t617_ : (qI S6_613 (qO S6_613 66 0) 4).toInt = (qI S20_601 (qO S20_601 66 0) 4).toInt := by rw [o616_]; exact congrArg Int32.toInt (q179_.2.kI (j := 4) (y177_.ref (y177_.ptr ptrC_39) (y177_.2.1 _ finC_31).2.1) (by decide) (by decide))
                    have t618_ : (qN S6_613 (qO S6_613 (qO S6_613 66 0) 1) : Int) = (qN S20_601 (qO S20_601 (qO S20_601 66 0) 1) : Int) := by rw [o616_]; exact q179_.2.kL (j := 1) y177_ (y177_.ref (y177_.ptr ptrC_39) (y177_.2.1 _ finC_31).2.1) (g.row (y177_.ref (y177_.ptr ptrC_39) (y177_.2.1 _ finC_31).2.1)).1.2.1 (by decide) (by decide)
                    have t619_ : (qN S6_613 (qO S6_613 (qO S6_613 66 0) 8) : Int) = (qN S20_601 (qO S20_601 (qO S20_601 66 0) 8) : Int) := by rw [o616_]; exact q179_.2.kL (j := 8) y177_ (y177_.ref (y177_.ptr ptrC_39) (y177_.2.1 _ finC_31).2.1) (g.row (y177_.ref (y177_.ptr ptrC_39) (y177_.2.1 _ finC_31).2.1)).1.2.2.2.2.2.2 (by decide) (by decide)
                    have t620_ : (qN S6_613 (qO S6_613 (qO S6_613 66 0) 7) : Int) = (qN S20_601 (qO S20_601 (qO S20_601 66 0) 7) : Int) := by rw [o616_]; exact q179_.2.kL (j := 7) y177_ (y177_.ref (y177_.ptr ptrC_39) (y177_.2.1 _ finC_31).2.1) (g.row (y177_.ref (y177_.ptr ptrC_39) (y177_.2.1 _ finC_31).2.1)).1.2.2.2.2.2.1 (by decide) (by decide)
                    have t621_ : (qN S6_613 (qO S6_613 (qO S6_613 66 0) 0) : Int) = (qN S20_601 (qO S20_601 (qO S20_601 66 0) 0) : Int) := by rw [o616_]; exact q179_.2.kL (j := 0) y177_ (y177_.ref (y177_.ptr ptrC_39) (y177_.2.1 _ finC_31).2.1) (g.row (y177_.ref (y177_.ptr ptrC_39) (y177_.2.1 _ finC_31).2.1)).1.1 (by decide) (by decide)
                    have t622_ : (qN S6_613 (qO S6_613 (qO S6_613 66 0) 6) : Int) = (qN S20_601 (qO S20_601 (qO S20_601 66 0) 6) : Int) := by rw [o616_]; exact q179_.2.kL (j := 6) y177_ (y177_.ref (y177_.ptr ptrC_39) (y177_.2.1 _ finC_31).2.1) (g.row (y177_.ref (y177_.ptr ptrC_39) (y177_.2.1 _ finC_31).2.1)).1.2.2.2.2.1 (by decide) (by decide)
                    have t623_ : (qN S6_613 (qO S6_613 (qO S6_613 66 0) 3) : Int) = (qN S20_601 (qO S20_601 (qO S20_601 66 0) 3) : Int) := by rw [o616_]; exact q179_.2.kL (j := 3) y177_ (y177_.ref (y177_.ptr ptrC_39) (y177_.2.1 _ finC_31).2.1) (g.row (y177_.ref (y177_.ptr ptrC_39) (y177_.2.1 _ finC_31).2.1)).1.2.2.1 (by decide) (by decide)
                    have t624_ : (qN S6_613 (qO S6_613 (qO S6_613 66 0) 5) : Int) = (qN S20_601 (qO S20_601 (qO S20_601 66 0) 5) : Int) := by rw [o616_]; exact q179_.2.kL (j := 5) y177_ (y177_.ref (y177_.ptr ptrC_39) (y177_.2.1 _ finC_31).2.1) (g.row (y177_.ref (y177_.ptr ptrC_39) (y177_.2.1 _ finC_31).2.1)).1.2.2.2.1 (by decide) (by decide)
                    have g : ShC B S6_613 := q179_.1.1
                    refine ⟨fun c625_ => ?_, fun c625_ => ?_⟩
                    · intro a10_626 ea10_626 
                      have ga10_626 := congrArg Int32.toInt ea10_626
                      unfold w_X9_goThrough_J98
                      intro y182_ y183_ y184_
                      intro a8_627 ea8_627 
                      have ga8_627 := congrArg Int32.toInt ea8_627
                      refine ih10 g ?_ ?_ ?_ ?_
                      · have s628_ := (g.row (y182_.ref (y182_.ptr ptrC_39) (y182_.2.1 _ finC_31).2.1)).2
                        have s629_ := g.smk
                        unfold SmK at s629_
                        have n1_ := rgI a8_627
                        have n2_ := rgI v10_5
                        have n3_ := rgI v10_1
                        have n4_ := rgI (qI U10 (qO U10 66 0) 2)
                        have n5_ := rgI v10_4
                        have n6_ := rgI v10_3
                        have n7_ := rgI r5_613
                        have n8_ := rgI a10_626
                        have n10_ := lo_1k
                        have n10_ := t_addD (a := v10_4) (b := Int32.ofInt 1)
                        have n11_ := rgI (v10_4 + Int32.ofInt 1)
                        have n12_ := t_addD (a := v10_5) (b := Int32.ofInt 1)
                        have n13_ := rgI (v10_5 + Int32.ofInt 1)
                        omega
                      · have s630_ := (g.row (y182_.ref (y182_.ptr ptrC_39) (y182_.2.1 _ finC_31).2.1)).2
                        have s631_ := g.smk
                        unfold SmK at s631_
                        have n1_ := rgI v10_1
                        have n2_ := rgI v10_5
                        have n3_ := rgI (qI U10 (qO U10 66 0) 2)
                        have n4_ := rgI v10_4
                        have n5_ := rgI v10_3
                        have n6_ := rgI r5_613
                        have n7_ := rgI a10_626
                        have n9_ := lo_1k
                        have n9_ := t_addD (a := v10_4) (b := Int32.ofInt 1)
                        have n10_ := rgI (v10_4 + Int32.ofInt 1)
                        have n11_ := rgI a8_627
                        have n12_ := t_addD (a := v10_5) (b := Int32.ofInt 1)
                        have n13_ := rgI (v10_5 + Int32.ofInt 1)
                        omega
                      · have s632_ := (g.row (y182_.ref (y182_.ptr ptrC_39) (y182_.2.1 _ finC_31).2.1)).2
                        have s633_ := g.smk
                        unfold SmK at s633_
                        have n1_ := rgI v10_1
                        have n2_ := rgI v10_5
                        have n3_ := rgI (qI U10 (qO U10 66 0) 2)
                        have n4_ := rgI v10_4
                        have n5_ := rgI v10_3
                        have n6_ := rgI r5_613
                        have n7_ := rgI a10_626
                        have n9_ := lo_1k
                        have n9_ := t_addD (a := v10_4) (b := Int32.ofInt 1)
                        have n10_ := rgI (v10_4 + Int32.ofInt 1)
                        have n11_ := rgI a8_627
                        have n12_ := t_addD (a := v10_5) (b := Int32.ofInt 1)
                        have n13_ := rgI (v10_5 + Int32.ofInt 1)
                        omega
                      · have s634_ := (g.row (y182_.ref (y182_.ptr ptrC_39) (y182_.2.1 _ finC_31).2.1)).2
                        have s635_ := g.smk
                        unfold SmK at s635_
                        have n1_ := rgI a8_627
                        have n2_ := rgI v10_5
                        have n3_ := rgI v10_1
                        have n4_ := rgI (qI U10 (qO U10 66 0) 2)
                        have n5_ := rgI v10_4
                        have n6_ := rgI v10_3
                        have n7_ := rgI r5_613
                        have n8_ := rgI a10_626
                        have n10_ := lo_1k
                        have n10_ := t_addD (a := v10_4) (b := Int32.ofInt 1)
                        have n11_ := rgI (v10_4 + Int32.ofInt 1)
                        have n12_ := t_addD (a := v10_5) (b := Int32.ofInt 1)
                        have n13_ := rgI (v10_5 + Int32.ofInt 1)
                        omega
                    · refine ⟨?_, ?_⟩
                      · have s636_ := (g.row (y180_.ref (y180_.ptr ptrC_39) (y180_.2.1 _ finC_31).2.1)).2
                        have s637_ := g.smk
                        unfold SmK at s637_
                        have n1_ := rgI v10_1
                        have n2_ := rgI v10_5
                        have n3_ := rgI (qI U10 (qO U10 66 0) 2)
                        have n4_ := rgI v10_4
                        have n5_ := rgI v10_3
                        have n6_ := rgI r5_613
                        omega
                      refine ⟨?_, ?_⟩
                      · have s638_ := (g.row (y180_.ref (y180_.ptr ptrC_39) (y180_.2.1 _ finC_31).2.1)).2
                        have s639_ := g.smk
                        unfold SmK at s639_
                        have n1_ := rgI v10_1
                        have n2_ := rgI v10_5
                        have n3_ := rgI (qI U10 (qO U10 66 0) 2)
                        have n4_ := rgI v10_4
                        have n5_ := rgI v10_3
                        have n6_ := rgI r5_613
                        omega
                      intro S15_640 eS15_640 y185_ y186_
                      have f641_ : cfr [228] [] S6_613 S15_640 := by rw [eS15_640]; exact cfr.aI y185_ (by decide)
                      have o642_ : qO S15_640 66 0 = qO S6_613 66 0 := qO_eq (f641_.kO (y180_.2.1 _ finC_31).2.1 (by decide) (by decide))
                      have t643_ : (qI S15_640 (qO S15_640 66 0) 4).toInt = (qI S6_613 (qO S6_613 66 0) 4).toInt := by rw [o642_]; exact congrArg Int32.toInt (f641_.kI (j := 4) (y180_.ref (y180_.ptr ptrC_39) (y180_.2.1 _ finC_31).2.1) (by decide) (by decide))
                      have t644_ : (qI S15_640 (qO S15_640 66 0) 9).toInt = (qI S6_613 (qO S6_613 66 0) 9).toInt := by rw [o642_]; exact congrArg Int32.toInt (f641_.kI (j := 9) (y180_.ref (y180_.ptr ptrC_39) (y180_.2.1 _ finC_31).2.1) (by decide) (by decide))
                      have t645_ : (qI S15_640 (qO S15_640 66 0) 2).toInt = (qI S6_613 (qO S6_613 66 0) 2).toInt := by rw [o642_]; exact congrArg Int32.toInt (f641_.kI (j := 2) (y180_.ref (y180_.ptr ptrC_39) (y180_.2.1 _ finC_31).2.1) (by decide) (by decide))
                      have t646_ : (qN S15_640 (qO S15_640 (qO S15_640 66 0) 1) : Int) = (qN S6_613 (qO S6_613 (qO S6_613 66 0) 1) : Int) := by rw [o642_]; exact f641_.kL (j := 1) y180_ (y180_.ref (y180_.ptr ptrC_39) (y180_.2.1 _ finC_31).2.1) (g.row (y180_.ref (y180_.ptr ptrC_39) (y180_.2.1 _ finC_31).2.1)).1.2.1 (by decide) (by decide)
                      have t647_ : (qN S15_640 (qO S15_640 (qO S15_640 66 0) 8) : Int) = (qN S6_613 (qO S6_613 (qO S6_613 66 0) 8) : Int) := by rw [o642_]; exact f641_.kL (j := 8) y180_ (y180_.ref (y180_.ptr ptrC_39) (y180_.2.1 _ finC_31).2.1) (g.row (y180_.ref (y180_.ptr ptrC_39) (y180_.2.1 _ finC_31).2.1)).1.2.2.2.2.2.2 (by decide) (by decide)
                      have t648_ : (qN S15_640 (qO S15_640 (qO S15_640 66 0) 7) : Int) = (qN S6_613 (qO S6_613 (qO S6_613 66 0) 7) : Int) := by rw [o642_]; exact f641_.kL (j := 7) y180_ (y180_.ref (y180_.ptr ptrC_39) (y180_.2.1 _ finC_31).2.1) (g.row (y180_.ref (y180_.ptr ptrC_39) (y180_.2.1 _ finC_31).2.1)).1.2.2.2.2.2.1 (by decide) (by decide)
                      have t649_ : (qN S15_640 (qO S15_640 (qO S15_640 66 0) 0) : Int) = (qN S6_613 (qO S6_613 (qO S6_613 66 0) 0) : Int) := by rw [o642_]; exact f641_.kL (j := 0) y180_ (y180_.ref (y180_.ptr ptrC_39) (y180_.2.1 _ finC_31).2.1) (g.row (y180_.ref (y180_.ptr ptrC_39) (y180_.2.1 _ finC_31).2.1)).1.1 (by decide) (by decide)
                      have t650_ : (qN S15_640 (qO S15_640 (qO S15_640 66 0) 6) : Int) = (qN S6_613 (qO S6_613 (qO S6_613 66 0) 6) : Int) := by rw [o642_]; exact f641_.kL (j := 6) y180_ (y180_.ref (y180_.ptr ptrC_39) (y180_.2.1 _ finC_31).2.1) (g.row (y180_.ref (y180_.ptr ptrC_39) (y180_.2.1 _ finC_31).2.1)).1.2.2.2.2.1 (by decide) (by decide)
                      have t651_ : (qN S15_640 (qO S15_640 (qO S15_640 66 0) 3) : Int) = (qN S6_613 (qO S6_613 (qO S6_613 66 0) 3) : Int) := by rw [o642_]; exact f641_.kL (j := 3) y180_ (y180_.ref (y180_.ptr ptrC_39) (y180_.2.1 _ finC_31).2.1) (g.row (y180_.ref (y180_.ptr ptrC_39) (y180_.2.1 _ finC_31).2.1)).1.2.2.1 (by decide) (by decide)
                      have t652_ : (qN S15_640 (qO S15_640 (qO S15_640 66 0) 5) : Int) = (qN S6_613 (qO S6_613 (qO S6_613 66 0) 5) : Int) := by rw [o642_]; exact f641_.kL (j := 5) y180_ (y180_.ref (y180_.ptr ptrC_39) (y180_.2.1 _ finC_31).2.1) (g.row (y180_.ref (y180_.ptr ptrC_39) (y180_.2.1 _ finC_31).2.1)).1.2.2.2.1 (by decide) (by decide)
                      have g : ShC B S15_640 := ShC.ws y180_ g f641_ (by rw [eS15_640]; rfl) (by rw [eS15_640]; rfl) (by rw [eS15_640]; rfl) rfl rfl
                      unfold w_X9_goThrough_J98
                      intro y187_ y188_ y189_
                      intro a8_653 ea8_653 
                      have ga8_653 := congrArg Int32.toInt ea8_653
                      refine ih10 g ?_ ?_ ?_ ?_
                      · have s654_ := (g.row (y187_.ref (y187_.ptr ptrC_39) (y187_.2.1 _ finC_31).2.1)).2
                        have s655_ := g.smk
                        unfold SmK at s655_
                        have n1_ := rgI a8_653
                        have n2_ := rgI v10_5
                        have n3_ := rgI v10_1
                        have n4_ := rgI (qI U10 (qO U10 66 0) 2)
                        have n5_ := rgI v10_4
                        have n6_ := rgI v10_3
                        have n7_ := rgI r5_613
                        have n9_ := lo_1k
                        have n9_ := t_addD (a := v10_5) (b := Int32.ofInt 1)
                        have n10_ := rgI (v10_5 + Int32.ofInt 1)
                        omega
                      · have s656_ := (g.row (y187_.ref (y187_.ptr ptrC_39) (y187_.2.1 _ finC_31).2.1)).2
                        have s657_ := g.smk
                        unfold SmK at s657_
                        have n1_ := rgI v10_1
                        have n2_ := rgI v10_5
                        have n3_ := rgI (qI U10 (qO U10 66 0) 2)
                        have n4_ := rgI v10_4
                        have n5_ := rgI v10_3
                        have n6_ := rgI r5_613
                        have n7_ := rgI a8_653
                        have n9_ := lo_1k
                        have n9_ := t_addD (a := v10_5) (b := Int32.ofInt 1)
                        have n10_ := rgI (v10_5 + Int32.ofInt 1)
                        omega
                      · have s658_ := (g.row (y187_.ref (y187_.ptr ptrC_39) (y187_.2.1 _ finC_31).2.1)).2
                        have s659_ := g.smk
                        unfold SmK at s659_
                        have n1_ := rgI v10_1
                        have n2_ := rgI v10_5
                        have n3_ := rgI (qI U10 (qO U10 66 0) 2)
                        have n4_ := rgI v10_4
                        have n5_ := rgI v10_3
                        have n6_ := rgI r5_613
                        have n7_ := rgI a8_653
                        have n9_ := lo_1k
                        have n9_ := t_addD (a := v10_5) (b := Int32.ofInt 1)
                        have n10_ := rgI (v10_5 + Int32.ofInt 1)
                        omega
                      · have s660_ := (g.row (y187_.ref (y187_.ptr ptrC_39) (y187_.2.1 _ finC_31).2.1)).2
                        have s661_ := g.smk
                        unfold SmK at s661_
                        have n1_ := rgI a8_653
                        have n2_ := rgI v10_5
                        have n3_ := rgI v10_1
                        have n4_ := rgI (qI U10 (qO U10 66 0) 2)
                        have n5_ := rgI v10_4
                        have n6_ := rgI v10_3
                        have n7_ := rgI r5_613
                        have n9_ := lo_1k
                        have n9_ := t_addD (a := v10_5) (b := Int32.ofInt 1)
                        have n10_ := rgI (v10_5 + Int32.ofInt 1)
                        omega
            · unfold w_X9_goThrough_J49
              intro y190_ y191_ y192_
              refine ⟨fun c662_ => ?_, fun c662_ => ?_⟩
              · unfold w_X9_goThrough_J68
                intro y193_ y194_
                refine ⟨_, frX9_isDone y193_ (sgX9_isDone y193_ g (by have s664_ := (g.row (y193_.ref (y193_.ptr ptrC_39) (y193_.2.1 _ finC_31).2.1)).2; have s665_ := g.smk; unfold SmK at s665_; have n1_ := rgI v10_4; have n2_ := rgI v10_5; have n3_ := rgI v10_1; have n4_ := rgI (qI U10 (qO U10 66 0) 2); have n5_ := rgI v10_3; omega)), ?_⟩
                intro r5_663 S6_663 q195_ y196_ y197_
                have o666_ : qO S6_663 66 0 = qO U10 66 0 := qO_eq (q195_.2.kO (y193_.2.1 _ finC_31).2.1 (by decide) (by decide))
                have t667_ : (qI S6_663 (qO S6_663 66 0) 4).toInt = (qI U10 (qO U10 66 0) 4).toInt := by rw [o666_]; exact congrArg Int32.toInt (q195_.2.kI (j := 4) (y193_.ref (y193_.ptr ptrC_39) (y193_.2.1 _ finC_31).2.1) (by decide) (by decide))
                have t668_ : (qN S6_663 (qO S6_663 (qO S6_663 66 0) 1) : Int) = (qN U10 (qO U10 (qO U10 66 0) 1) : Int) := by rw [o666_]; exact q195_.2.kL (j := 1) y193_ (y193_.ref (y193_.ptr ptrC_39) (y193_.2.1 _ finC_31).2.1) (g.row (y193_.ref (y193_.ptr ptrC_39) (y193_.2.1 _ finC_31).2.1)).1.2.1 (by decide) (by decide)
                have t669_ : (qN S6_663 (qO S6_663 (qO S6_663 66 0) 8) : Int) = (qN U10 (qO U10 (qO U10 66 0) 8) : Int) := by rw [o666_]; exact q195_.2.kL (j := 8) y193_ (y193_.ref (y193_.ptr ptrC_39) (y193_.2.1 _ finC_31).2.1) (g.row (y193_.ref (y193_.ptr ptrC_39) (y193_.2.1 _ finC_31).2.1)).1.2.2.2.2.2.2 (by decide) (by decide)
                have t670_ : (qN S6_663 (qO S6_663 (qO S6_663 66 0) 7) : Int) = (qN U10 (qO U10 (qO U10 66 0) 7) : Int) := by rw [o666_]; exact q195_.2.kL (j := 7) y193_ (y193_.ref (y193_.ptr ptrC_39) (y193_.2.1 _ finC_31).2.1) (g.row (y193_.ref (y193_.ptr ptrC_39) (y193_.2.1 _ finC_31).2.1)).1.2.2.2.2.2.1 (by decide) (by decide)
                have t671_ : (qN S6_663 (qO S6_663 (qO S6_663 66 0) 0) : Int) = (qN U10 (qO U10 (qO U10 66 0) 0) : Int) := by rw [o666_]; exact q195_.2.kL (j := 0) y193_ (y193_.ref (y193_.ptr ptrC_39) (y193_.2.1 _ finC_31).2.1) (g.row (y193_.ref (y193_.ptr ptrC_39) (y193_.2.1 _ finC_31).2.1)).1.1 (by decide) (by decide)
                have t672_ : (qN S6_663 (qO S6_663 (qO S6_663 66 0) 6) : Int) = (qN U10 (qO U10 (qO U10 66 0) 6) : Int) := by rw [o666_]; exact q195_.2.kL (j := 6) y193_ (y193_.ref (y193_.ptr ptrC_39) (y193_.2.1 _ finC_31).2.1) (g.row (y193_.ref (y193_.ptr ptrC_39) (y193_.2.1 _ finC_31).2.1)).1.2.2.2.2.1 (by decide) (by decide)
                have t673_ : (qN S6_663 (qO S6_663 (qO S6_663 66 0) 3) : Int) = (qN U10 (qO U10 (qO U10 66 0) 3) : Int) := by rw [o666_]; exact q195_.2.kL (j := 3) y193_ (y193_.ref (y193_.ptr ptrC_39) (y193_.2.1 _ finC_31).2.1) (g.row (y193_.ref (y193_.ptr ptrC_39) (y193_.2.1 _ finC_31).2.1)).1.2.2.1 (by decide) (by decide)
                have t674_ : (qN S6_663 (qO S6_663 (qO S6_663 66 0) 5) : Int) = (qN U10 (qO U10 (qO U10 66 0) 5) : Int) := by rw [o666_]; exact q195_.2.kL (j := 5) y193_ (y193_.ref (y193_.ptr ptrC_39) (y193_.2.1 _ finC_31).2.1) (g.row (y193_.ref (y193_.ptr ptrC_39) (y193_.2.1 _ finC_31).2.1)).1.2.2.2.1 (by decide) (by decide)
                have g : ShC B S6_663 := q195_.1.1
                refine ⟨fun c675_ => ?_, fun c675_ => ?_⟩
                · intro a10_676 ea10_676 
                  have ga10_676 := congrArg Int32.toInt ea10_676
                  unfold w_X9_goThrough_J98
                  intro y198_ y199_ y200_
                  intro a8_677 ea8_677 
                  have ga8_677 := congrArg Int32.toInt ea8_677
                  refine ih10 g ?_ ?_ ?_ ?_
                  · have s678_ := (g.row (y198_.ref (y198_.ptr ptrC_39) (y198_.2.1 _ finC_31).2.1)).2
                    have s679_ := g.smk
                    unfold SmK at s679_
                    have n1_ := rgI a8_677
                    have n2_ := rgI v10_5
                    have n3_ := rgI v10_1
                    have n4_ := rgI (qI U10 (qO U10 66 0) 2)
                    have n5_ := rgI v10_4
                    have n6_ := rgI v10_3
                    have n7_ := rgI r5_663
                    have n8_ := rgI a10_676
                    have n10_ := lo_1k
                    have n10_ := t_addD (a := v10_4) (b := Int32.ofInt 1)
                    have n11_ := rgI (v10_4 + Int32.ofInt 1)
                    have n12_ := t_addD (a := v10_5) (b := Int32.ofInt 1)
                    have n13_ := rgI (v10_5 + Int32.ofInt 1)
                    omega
                  · have s680_ := (g.row (y198_.ref (y198_.ptr ptrC_39) (y198_.2.1 _ finC_31).2.1)).2
                    have s681_ := g.smk
                    unfold SmK at s681_
                    have n1_ := rgI v10_1
                    have n2_ := rgI v10_5
                    have n3_ := rgI (qI U10 (qO U10 66 0) 2)
                    have n4_ := rgI v10_4
                    have n5_ := rgI v10_3
                    have n6_ := rgI r5_663
                    have n7_ := rgI a10_676
                    have n9_ := lo_1k
                    have n9_ := t_addD (a := v10_4) (b := Int32.ofInt 1)
                    have n10_ := rgI (v10_4 + Int32.ofInt 1)
                    have n11_ := rgI a8_677
                    have n12_ := t_addD (a := v10_5) (b := Int32.ofInt 1)
                    have n13_ := rgI (v10_5 + Int32.ofInt 1)
                    omega
                  · have s682_ := (g.row (y198_.ref (y198_.ptr ptrC_39) (y198_.2.1 _ finC_31).2.1)).2
                    have s683_ := g.smk
                    unfold SmK at s683_
                    have n1_ := rgI v10_1
                    have n2_ := rgI v10_5
                    have n3_ := rgI (qI U10 (qO U10 66 0) 2)
                    have n4_ := rgI v10_4
                    have n5_ := rgI v10_3
                    have n6_ := rgI r5_663
                    have n7_ := rgI a10_676
                    have n9_ := lo_1k
                    have n9_ := t_addD (a := v10_4) (b := Int32.ofInt 1)
                    have n10_ := rgI (v10_4 + Int32.ofInt 1)
                    have n11_ := rgI a8_677
                    have n12_ := t_addD (a := v10_5) (b := Int32.ofInt 1)
                    have n13_ := rgI (v10_5 + Int32.ofInt 1)
                    omega
                  · have s684_ := (g.row (y198_.ref (y198_.ptr ptrC_39) (y198_.2.1 _ finC_31).2.1)).2
                    have s685_ := g.smk
                    unfold SmK at s685_
                    have n1_ := rgI a8_677
                    have n2_ := rgI v10_5
                    have n3_ := rgI v10_1
                    have n4_ := rgI (qI U10 (qO U10 66 0) 2)
                    have n5_ := rgI v10_4
                    have n6_ := rgI v10_3
                    have n7_ := rgI r5_663
                    have n8_ := rgI a10_676
                    have n10_ := lo_1k
                    have n10_ := t_addD (a := v10_4) (b := Int32.ofInt 1)
                    have n11_ := rgI (v10_4 + Int32.ofInt 1)
                    have n12_ := t_addD (a := v10_5) (b := Int32.ofInt 1)
                    have n13_ := rgI (v10_5 + Int32.ofInt 1)
                    omega
                · refine ⟨?_, ?_⟩
                  · have s686_ := (g.row (y196_.ref (y196_.ptr ptrC_39) (y196_.2.1 _ finC_31).2.1)).2
                    have s687_ := g.smk
                    unfold SmK at s687_
                    have n1_ := rgI v10_1
                    have n2_ := rgI v10_5
                    have n3_ := rgI (qI U10 (qO U10 66 0) 2)
                    have n4_ := rgI v10_4
                    have n5_ := rgI v10_3
                    have n6_ := rgI r5_663
                    omega
                  refine ⟨?_, ?_⟩
                  · have s688_ := (g.row (y196_.ref (y196_.ptr ptrC_39) (y196_.2.1 _ finC_31).2.1)).2
                    have s689_ := g.smk
                    unfold SmK at s689_
                    have n1_ := rgI v10_1
                    have n2_ := rgI v10_5
                    have n3_ := rgI (qI U10 (qO U10 66 0) 2)
                    have n4_ := rgI v10_4
                    have n5_ := rgI v10_3
                    have n6_ := rgI r5_663
                    omega
                  intro S15_690 eS15_690 y201_ y202_
                  have f691_ : cfr [228] [] S6_663 S15_690 := by rw [eS15_690]; exact cfr.aI y201_ (by decide)
                  have o692_ : qO S15_690 66 0 = qO S6_663 66 0 := qO_eq (f691_.kO (y196_.2.1 _ finC_31).2.1 (by decide) (by decide))
                  have t693_ : (qI S15_690 (qO S15_690 66 0) 4).toInt = (qI S6_663 (qO S6_663 66 0) 4).toInt := by rw [o692_]; exact congrArg Int32.toInt (f691_.kI (j := 4) (y196_.ref (y196_.ptr ptrC_39) (y196_.2.1 _ finC_31).2.1) (by decide) (by decide))
                  have t694_ : (qI S15_690 (qO S15_690 66 0) 9).toInt = (qI S6_663 (qO S6_663 66 0) 9).toInt := by rw [o692_]; exact congrArg Int32.toInt (f691_.kI (j := 9) (y196_.ref (y196_.ptr ptrC_39) (y196_.2.1 _ finC_31).2.1) (by decide) (by decide))
                  have t695_ : (qI S15_690 (qO S15_690 66 0) 2).toInt = (qI S6_663 (qO S6_663 66 0) 2).toInt := by rw [o692_]; exact congrArg Int32.toInt (f691_.kI (j := 2) (y196_.ref (y196_.ptr ptrC_39) (y196_.2.1 _ finC_31).2.1) (by decide) (by decide))
                  have t696_ : (qN S15_690 (qO S15_690 (qO S15_690 66 0) 1) : Int) = (qN S6_663 (qO S6_663 (qO S6_663 66 0) 1) : Int) := by rw [o692_]; exact f691_.kL (j := 1) y196_ (y196_.ref (y196_.ptr ptrC_39) (y196_.2.1 _ finC_31).2.1) (g.row (y196_.ref (y196_.ptr ptrC_39) (y196_.2.1 _ finC_31).2.1)).1.2.1 (by decide) (by decide)
                  have t697_ : (qN S15_690 (qO S15_690 (qO S15_690 66 0) 8) : Int) = (qN S6_663 (qO S6_663 (qO S6_663 66 0) 8) : Int) := by rw [o692_]; exact f691_.kL (j := 8) y196_ (y196_.ref (y196_.ptr ptrC_39) (y196_.2.1 _ finC_31).2.1) (g.row (y196_.ref (y196_.ptr ptrC_39) (y196_.2.1 _ finC_31).2.1)).1.2.2.2.2.2.2 (by decide) (by decide)
                  have t698_ : (qN S15_690 (qO S15_690 (qO S15_690 66 0) 7) : Int) = (qN S6_663 (qO S6_663 (qO S6_663 66 0) 7) : Int) := by rw [o692_]; exact f691_.kL (j := 7) y196_ (y196_.ref (y196_.ptr ptrC_39) (y196_.2.1 _ finC_31).2.1) (g.row (y196_.ref (y196_.ptr ptrC_39) (y196_.2.1 _ finC_31).2.1)).1.2.2.2.2.2.1 (by decide) (by decide)
                  have t699_ : (qN S15_690 (qO S15_690 (qO S15_690 66 0) 0) : Int) = (qN S6_663 (qO S6_663 (qO S6_663 66 0) 0) : Int) := by rw [o692_]; exact f691_.kL (j := 0) y196_ (y196_.ref (y196_.ptr ptrC_39) (y196_.2.1 _ finC_31).2.1) (g.row (y196_.ref (y196_.ptr ptrC_39) (y196_.2.1 _ finC_31).2.1)).1.1 (by decide) (by decide)
                  have t700_ : (qN S15_690 (qO S15_690 (qO S15_690 66 0) 6) : Int) = (qN S6_663 (qO S6_663 (qO S6_663 66 0) 6) : Int) := by rw [o692_]; exact f691_.kL (j := 6) y196_ (y196_.ref (y196_.ptr ptrC_39) (y196_.2.1 _ finC_31).2.1) (g.row (y196_.ref (y196_.ptr ptrC_39) (y196_.2.1 _ finC_31).2.1)).1.2.2.2.2.1 (by decide) (by decide)
                  have t701_ : (qN S15_690 (qO S15_690 (qO S15_690 66 0) 3) : Int) = (qN S6_663 (qO S6_663 (qO S6_663 66 0) 3) : Int) := by rw [o692_]; exact f691_.kL (j := 3) y196_ (y196_.ref (y196_.ptr ptrC_39) (y196_.2.1 _ finC_31).2.1) (g.row (y196_.ref (y196_.ptr ptrC_39) (y196_.2.1 _ finC_31).2.1)).1.2.2.1 (by decide) (by decide)
                  have t702_ : (qN S15_690 (qO S15_690 (qO S15_690 66 0) 5) : Int) = (qN S6_663 (qO S6_663 (qO S6_663 66 0) 5) : Int) := by rw [o692_]; exact f691_.kL (j := 5) y196_ (y196_.ref (y196_.ptr ptrC_39) (y196_.2.1 _ finC_31).2.1) (g.row (y196_.ref (y196_.ptr ptrC_39) (y196_.2.1 _ finC_31).2.1)).1.2.2.2.1 (by decide) (by decide)
                  have g : ShC B S15_690 := ShC.ws y196_ g f691_ (by rw [eS15_690]; rfl) (by rw [eS15_690]; rfl) (by rw [eS15_690]; rfl) rfl rfl
                  unfold w_X9_goThrough_J98
                  intro y203_ y204_ y205_
                  intro a8_703 ea8_703 
                  have ga8_703 := congrArg Int32.toInt ea8_703
                  refine ih10 g ?_ ?_ ?_ ?_
                  · have s704_ := (g.row (y203_.ref (y203_.ptr ptrC_39) (y203_.2.1 _ finC_31).2.1)).2
                    have s705_ := g.smk
                    unfold SmK at s705_
                    have n1_ := rgI a8_703
                    have n2_ := rgI v10_5
                    have n3_ := rgI v10_1
                    have n4_ := rgI (qI U10 (qO U10 66 0) 2)
                    have n5_ := rgI v10_4
                    have n6_ := rgI v10_3
                    have n7_ := rgI r5_663
                    have n9_ := lo_1k
                    have n9_ := t_addD (a := v10_5) (b := Int32.ofInt 1)
                    have n10_ := rgI (v10_5 + Int32.ofInt 1)
                    omega
                  · have s706_ := (g.row (y203_.ref (y203_.ptr ptrC_39) (y203_.2.1 _ finC_31).2.1)).2
                    have s707_ := g.smk
                    unfold SmK at s707_
                    have n1_ := rgI v10_1
                    have n2_ := rgI v10_5
                    have n3_ := rgI (qI U10 (qO U10 66 0) 2)
                    have n4_ := rgI v10_4
                    have n5_ := rgI v10_3
                    have n6_ := rgI r5_663
                    have n7_ := rgI a8_703
                    have n9_ := lo_1k
                    have n9_ := t_addD (a := v10_5) (b := Int32.ofInt 1)
                    have n10_ := rgI (v10_5 + Int32.ofInt 1)
                    omega
                  · have s708_ := (g.row (y203_.ref (y203_.ptr ptrC_39) (y203_.2.1 _ finC_31).2.1)).2
                    have s709_ := g.smk
                    unfold SmK at s709_
                    have n1_ := rgI v10_1
                    have n2_ := rgI v10_5
                    have n3_ := rgI (qI U10 (qO U10 66 0) 2)
                    have n4_ := rgI v10_4
                    have n5_ := rgI v10_3
                    have n6_ := rgI r5_663
                    have n7_ := rgI a8_703
                    have n9_ := lo_1k
                    have n9_ := t_addD (a := v10_5) (b := Int32.ofInt 1)
                    have n10_ := rgI (v10_5 + Int32.ofInt 1)
                    omega
                  · have s710_ := (g.row (y203_.ref (y203_.ptr ptrC_39) (y203_.2.1 _ finC_31).2.1)).2
                    have s711_ := g.smk
                    unfold SmK at s711_
                    have n1_ := rgI a8_703
                    have n2_ := rgI v10_5
                    have n3_ := rgI v10_1
                    have n4_ := rgI (qI U10 (qO U10 66 0) 2)
                    have n5_ := rgI v10_4
                    have n6_ := rgI v10_3
                    have n7_ := rgI r5_663
                    have n9_ := lo_1k
                    have n9_ := t_addD (a := v10_5) (b := Int32.ofInt 1)
                    have n10_ := rgI (v10_5 + Int32.ofInt 1)
                    omega
              · refine ⟨fun c712_ => ?_, fun c712_ => ?_⟩
                · unfold w_X9_goThrough_J68
                  intro y206_ y207_
                  refine ⟨_, frX9_isDone y206_ (sgX9_isDone y206_ g (by have s714_ := (g.row (y206_.ref (y206_.ptr ptrC_39) (y206_.2.1 _ finC_31).2.1)).2; have s715_ := g.smk; unfold SmK at s715_; have n1_ := rgI v10_4; have n2_ := rgI v10_5; have n3_ := rgI v10_1; have n4_ := rgI (qI U10 (qO U10 66 0) 2); have n5_ := rgI v10_3; omega)), ?_⟩
                  intro r5_713 S6_713 q208_ y209_ y210_
                  have o716_ : qO S6_713 66 0 = qO U10 66 0 := qO_eq (q208_.2.kO (y206_.2.1 _ finC_31).2.1 (by decide) (by decide))
                  have t717_ : (qI S6_713 (qO S6_713 66 0) 4).toInt = (qI U10 (qO U10 66 0) 4).toInt := by rw [o716_]; exact congrArg Int32.toInt (q208_.2.kI (j := 4) (y206_.ref (y206_.ptr ptrC_39) (y206_.2.1 _ finC_31).2.1) (by decide) (by decide))
                  have t718_ : (qN S6_713 (qO S6_713 (qO S6_713 66 0) 1) : Int) = (qN U10 (qO U10 (qO U10 66 0) 1) : Int) := by rw [o716_]; exact q208_.2.kL (j := 1) y206_ (y206_.ref (y206_.ptr ptrC_39) (y206_.2.1 _ finC_31).2.1) (g.row (y206_.ref (y206_.ptr ptrC_39) (y206_.2.1 _ finC_31).2.1)).1.2.1 (by decide) (by decide)
                  have t719_ : (qN S6_713 (qO S6_713 (qO S6_713 66 0) 8) : Int) = (qN U10 (qO U10 (qO U10 66 0) 8) : Int) := by rw [o716_]; exact q208_.2.kL (j := 8) y206_ (y206_.ref (y206_.ptr ptrC_39) (y206_.2.1 _ finC_31).2.1) (g.row (y206_.ref (y206_.ptr ptrC_39) (y206_.2.1 _ finC_31).2.1)).1.2.2.2.2.2.2 (by decide) (by decide)
                  have t720_ : (qN S6_713 (qO S6_713 (qO S6_713 66 0) 7) : Int) = (qN U10 (qO U10 (qO U10 66 0) 7) : Int) := by rw [o716_]; exact q208_.2.kL (j := 7) y206_ (y206_.ref (y206_.ptr ptrC_39) (y206_.2.1 _ finC_31).2.1) (g.row (y206_.ref (y206_.ptr ptrC_39) (y206_.2.1 _ finC_31).2.1)).1.2.2.2.2.2.1 (by decide) (by decide)
                  have t721_ : (qN S6_713 (qO S6_713 (qO S6_713 66 0) 0) : Int) = (qN U10 (qO U10 (qO U10 66 0) 0) : Int) := by rw [o716_]; exact q208_.2.kL (j := 0) y206_ (y206_.ref (y206_.ptr ptrC_39) (y206_.2.1 _ finC_31).2.1) (g.row (y206_.ref (y206_.ptr ptrC_39) (y206_.2.1 _ finC_31).2.1)).1.1 (by decide) (by decide)
                  have t722_ : (qN S6_713 (qO S6_713 (qO S6_713 66 0) 6) : Int) = (qN U10 (qO U10 (qO U10 66 0) 6) : Int) := by rw [o716_]; exact q208_.2.kL (j := 6) y206_ (y206_.ref (y206_.ptr ptrC_39) (y206_.2.1 _ finC_31).2.1) (g.row (y206_.ref (y206_.ptr ptrC_39) (y206_.2.1 _ finC_31).2.1)).1.2.2.2.2.1 (by decide) (by decide)
                  have t723_ : (qN S6_713 (qO S6_713 (qO S6_713 66 0) 3) : Int) = (qN U10 (qO U10 (qO U10 66 0) 3) : Int) := by rw [o716_]; exact q208_.2.kL (j := 3) y206_ (y206_.ref (y206_.ptr ptrC_39) (y206_.2.1 _ finC_31).2.1) (g.row (y206_.ref (y206_.ptr ptrC_39) (y206_.2.1 _ finC_31).2.1)).1.2.2.1 (by decide) (by decide)
                  have t724_ : (qN S6_713 (qO S6_713 (qO S6_713 66 0) 5) : Int) = (qN U10 (qO U10 (qO U10 66 0) 5) : Int) := by rw [o716_]; exact q208_.2.kL (j := 5) y206_ (y206_.ref (y206_.ptr ptrC_39) (y206_.2.1 _ finC_31).2.1) (g.row (y206_.ref (y206_.ptr ptrC_39) (y206_.2.1 _ finC_31).2.1)).1.2.2.2.1 (by decide) (by decide)
                  have g : ShC B S6_713 := q208_.1.1
                  refine ⟨fun c725_ => ?_, fun c725_ => ?_⟩
                  · intro a10_726 ea10_726 
                    have ga10_726 := congrArg Int32.toInt ea10_726
                    unfold w_X9_goThrough_J98
                    intro y211_ y212_ y213_
                    intro a8_727 ea8_727 
                    have ga8_727 := congrArg Int32.toInt ea8_727
                    refine ih10 g ?_ ?_ ?_ ?_
                    · have s728_ := (g.row (y211_.ref (y211_.ptr ptrC_39) (y211_.2.1 _ finC_31).2.1)).2
                      have s729_ := g.smk
                      unfold SmK at s729_
                      have n1_ := rgI a8_727
                      have n2_ := rgI v10_5
                      have n3_ := rgI v10_1
                      have n4_ := rgI (qI U10 (qO U10 66 0) 2)
                      have n5_ := rgI v10_4
                      have n6_ := rgI v10_3
                      have n7_ := rgI r5_713
                      have n8_ := rgI a10_726
                      have n10_ := lo_1k
                      have n10_ := t_addD (a := v10_4) (b := Int32.ofInt 1)
                      have n11_ := rgI (v10_4 + Int32.ofInt 1)
                      have n12_ := t_addD (a := v10_5) (b := Int32.ofInt 1)
                      have n13_ := rgI (v10_5 + Int32.ofInt 1)
                      omega
                    · have s730_ := (g.row (y211_.ref (y211_.ptr ptrC_39) (y211_.2.1 _ finC_31).2.1)).2
                      have s731_ := g.smk
                      unfold SmK at s731_
                      have n1_ := rgI v10_1
                      have n2_ := rgI v10_5
                      have n3_ := rgI (qI U10 (qO U10 66 0) 2)
                      have n4_ := rgI v10_4
                      have n5_ := rgI v10_3
                      have n6_ := rgI r5_713
                      have n7_ := rgI a10_726
                      have n9_ := lo_1k
                      have n9_ := t_addD (a := v10_4) (b := Int32.ofInt 1)
                      have n10_ := rgI (v10_4 + Int32.ofInt 1)
                      have n11_ := rgI a8_727
                      have n12_ := t_addD (a := v10_5) (b := Int32.ofInt 1)
                      have n13_ := rgI (v10_5 + Int32.ofInt 1)
                      omega
                    · have s732_ := (g.row (y211_.ref (y211_.ptr ptrC_39) (y211_.2.1 _ finC_31).2.1)).2
                      have s733_ := g.smk
                      unfold SmK at s733_
                      have n1_ := rgI v10_1
                      have n2_ := rgI v10_5
                      have n3_ := rgI (qI U10 (qO U10 66 0) 2)
                      have n4_ := rgI v10_4
                      have n5_ := rgI v10_3
                      have n6_ := rgI r5_713
                      have n7_ := rgI a10_726
                      have n9_ := lo_1k
                      have n9_ := t_addD (a := v10_4) (b := Int32.ofInt 1)
                      have n10_ := rgI (v10_4 + Int32.ofInt 1)
                      have n11_ := rgI a8_727
                      have n12_ := t_addD (a := v10_5) (b := Int32.ofInt 1)
                      have n13_ := rgI (v10_5 + Int32.ofInt 1)
                      omega
                    · have s734_ := (g.row (y211_.ref (y211_.ptr ptrC_39) (y211_.2.1 _ finC_31).2.1)).2
                      have s735_ := g.smk
                      unfold SmK at s735_
                      have n1_ := rgI a8_727
                      have n2_ := rgI v10_5
                      have n3_ := rgI v10_1
                      have n4_ := rgI (qI U10 (qO U10 66 0) 2)
                      have n5_ := rgI v10_4
                      have n6_ := rgI v10_3
                      have n7_ := rgI r5_713
                      have n8_ := rgI a10_726
                      have n10_ := lo_1k
                      have n10_ := t_addD (a := v10_4) (b := Int32.ofInt 1)
                      have n11_ := rgI (v10_4 + Int32.ofInt 1)
                      have n12_ := t_addD (a := v10_5) (b := Int32.ofInt 1)
                      have n13_ := rgI (v10_5 + Int32.ofInt 1)
                      omega
                  · refine ⟨?_, ?_⟩
                    · have s736_ := (g.row (y209_.ref (y209_.ptr ptrC_39) (y209_.2.1 _ finC_31).2.1)).2
                      have s737_ := g.smk
                      unfold SmK at s737_
                      have n1_ := rgI v10_1
                      have n2_ := rgI v10_5
                      have n3_ := rgI (qI U10 (qO U10 66 0) 2)
                      have n4_ := rgI v10_4
                      have n5_ := rgI v10_3
                      have n6_ := rgI r5_713
                      omega
                    refine ⟨?_, ?_⟩
                    · have s738_ := (g.row (y209_.ref (y209_.ptr ptrC_39) (y209_.2.1 _ finC_31).2.1)).2
                      have s739_ := g.smk
                      unfold SmK at s739_
                      have n1_ := rgI v10_1
                      have n2_ := rgI v10_5
                      have n3_ := rgI (qI U10 (qO U10 66 0) 2)
                      have n4_ := rgI v10_4
                      have n5_ := rgI v10_3
                      have n6_ := rgI r5_713
                      omega
                    intro S15_740 eS15_740 y214_ y215_
                    have f741_ : cfr [228] [] S6_713 S15_740 := by rw [eS15_740]; exact cfr.aI y214_ (by decide)
                    have o742_ : qO S15_740 66 0 = qO S6_713 66 0 := qO_eq (f741_.kO (y209_.2.1 _ finC_31).2.1 (by decide) (by decide))
                    have t743_ : (qI S15_740 (qO S15_740 66 0) 4).toInt = (qI S6_713 (qO S6_713 66 0) 4).toInt := by rw [o742_]; exact congrArg Int32.toInt (f741_.kI (j := 4) (y209_.ref (y209_.ptr ptrC_39) (y209_.2.1 _ finC_31).2.1) (by decide) (by decide))
                    have t744_ : (qI S15_740 (qO S15_740 66 0) 9).toInt = (qI S6_713 (qO S6_713 66 0) 9).toInt := by rw [o742_]; exact congrArg Int32.toInt (f741_.kI (j := 9) (y209_.ref (y209_.ptr ptrC_39) (y209_.2.1 _ finC_31).2.1) (by decide) (by decide))
                    have t745_ : (qI S15_740 (qO S15_740 66 0) 2).toInt = (qI S6_713 (qO S6_713 66 0) 2).toInt := by rw [o742_]; exact congrArg Int32.toInt (f741_.kI (j := 2) (y209_.ref (y209_.ptr ptrC_39) (y209_.2.1 _ finC_31).2.1) (by decide) (by decide))
                    have t746_ : (qN S15_740 (qO S15_740 (qO S15_740 66 0) 1) : Int) = (qN S6_713 (qO S6_713 (qO S6_713 66 0) 1) : Int) := by rw [o742_]; exact f741_.kL (j := 1) y209_ (y209_.ref (y209_.ptr ptrC_39) (y209_.2.1 _ finC_31).2.1) (g.row (y209_.ref (y209_.ptr ptrC_39) (y209_.2.1 _ finC_31).2.1)).1.2.1 (by decide) (by decide)
                    have t747_ : (qN S15_740 (qO S15_740 (qO S15_740 66 0) 8) : Int) = (qN S6_713 (qO S6_713 (qO S6_713 66 0) 8) : Int) := by rw [o742_]; exact f741_.kL (j := 8) y209_ (y209_.ref (y209_.ptr ptrC_39) (y209_.2.1 _ finC_31).2.1) (g.row (y209_.ref (y209_.ptr ptrC_39) (y209_.2.1 _ finC_31).2.1)).1.2.2.2.2.2.2 (by decide) (by decide)
                    have t748_ : (qN S15_740 (qO S15_740 (qO S15_740 66 0) 7) : Int) = (qN S6_713 (qO S6_713 (qO S6_713 66 0) 7) : Int) := by rw [o742_]; exact f741_.kL (j := 7) y209_ (y209_.ref (y209_.ptr ptrC_39) (y209_.2.1 _ finC_31).2.1) (g.row (y209_.ref (y209_.ptr ptrC_39) (y209_.2.1 _ finC_31).2.1)).1.2.2.2.2.2.1 (by decide) (by decide)
                    have t749_ : (qN S15_740 (qO S15_740 (qO S15_740 66 0) 0) : Int) = (qN S6_713 (qO S6_713 (qO S6_713 66 0) 0) : Int) := by rw [o742_]; exact f741_.kL (j := 0) y209_ (y209_.ref (y209_.ptr ptrC_39) (y209_.2.1 _ finC_31).2.1) (g.row (y209_.ref (y209_.ptr ptrC_39) (y209_.2.1 _ finC_31).2.1)).1.1 (by decide) (by decide)
                    have t750_ : (qN S15_740 (qO S15_740 (qO S15_740 66 0) 6) : Int) = (qN S6_713 (qO S6_713 (qO S6_713 66 0) 6) : Int) := by rw [o742_]; exact f741_.kL (j := 6) y209_ (y209_.ref (y209_.ptr ptrC_39) (y209_.2.1 _ finC_31).2.1) (g.row (y209_.ref (y209_.ptr ptrC_39) (y209_.2.1 _ finC_31).2.1)).1.2.2.2.2.1 (by decide) (by decide)
                    have t751_ : (qN S15_740 (qO S15_740 (qO S15_740 66 0) 3) : Int) = (qN S6_713 (qO S6_713 (qO S6_713 66 0) 3) : Int) := by rw [o742_]; exact f741_.kL (j := 3) y209_ (y209_.ref (y209_.ptr ptrC_39) (y209_.2.1 _ finC_31).2.1) (g.row (y209_.ref (y209_.ptr ptrC_39) (y209_.2.1 _ finC_31).2.1)).1.2.2.1 (by decide) (by decide)
                    have t752_ : (qN S15_740 (qO S15_740 (qO S15_740 66 0) 5) : Int) = (qN S6_713 (qO S6_713 (qO S6_713 66 0) 5) : Int) := by rw [o742_]; exact f741_.kL (j := 5) y209_ (y209_.ref (y209_.ptr ptrC_39) (y209_.2.1 _ finC_31).2.1) (g.row (y209_.ref (y209_.ptr ptrC_39) (y209_.2.1 _ finC_31).2.1)).1.2.2.2.1 (by decide) (by decide)
                    have g : ShC B S15_740 := ShC.ws y209_ g f741_ (by rw [eS15_740]; rfl) (by rw [eS15_740]; rfl) (by rw [eS15_740]; rfl) rfl rfl
                    unfold w_X9_goThrough_J98
                    intro y216_ y217_ y218_
                    intro a8_753 ea8_753 
                    have ga8_753 := congrArg Int32.toInt ea8_753
                    refine ih10 g ?_ ?_ ?_ ?_
                    · have s754_ := (g.row (y216_.ref (y216_.ptr ptrC_39) (y216_.2.1 _ finC_31).2.1)).2
                      have s755_ := g.smk
                      unfold SmK at s755_
                      have n1_ := rgI a8_753
                      have n2_ := rgI v10_5
                      have n3_ := rgI v10_1
                      have n4_ := rgI (qI U10 (qO U10 66 0) 2)
                      have n5_ := rgI v10_4
                      have n6_ := rgI v10_3
                      have n7_ := rgI r5_713
                      have n9_ := lo_1k
                      have n9_ := t_addD (a := v10_5) (b := Int32.ofInt 1)
                      have n10_ := rgI (v10_5 + Int32.ofInt 1)
                      omega
                    · have s756_ := (g.row (y216_.ref (y216_.ptr ptrC_39) (y216_.2.1 _ finC_31).2.1)).2
                      have s757_ := g.smk
                      unfold SmK at s757_
                      have n1_ := rgI v10_1
                      have n2_ := rgI v10_5
                      have n3_ := rgI (qI U10 (qO U10 66 0) 2)
                      have n4_ := rgI v10_4
                      have n5_ := rgI v10_3
                      have n6_ := rgI r5_713
                      have n7_ := rgI a8_753
                      have n9_ := lo_1k
                      have n9_ := t_addD (a := v10_5) (b := Int32.ofInt 1)
                      have n10_ := rgI (v10_5 + Int32.ofInt 1)
                      omega
                    · have s758_ := (g.row (y216_.ref (y216_.ptr ptrC_39) (y216_.2.1 _ finC_31).2.1)).2
                      have s759_ := g.smk
                      unfold SmK at s759_
                      have n1_ := rgI v10_1
                      have n2_ := rgI v10_5
                      have n3_ := rgI (qI U10 (qO U10 66 0) 2)
                      have n4_ := rgI v10_4
                      have n5_ := rgI v10_3
                      have n6_ := rgI r5_713
                      have n7_ := rgI a8_753
                      have n9_ := lo_1k
                      have n9_ := t_addD (a := v10_5) (b := Int32.ofInt 1)
                      have n10_ := rgI (v10_5 + Int32.ofInt 1)
                      omega
                    · have s760_ := (g.row (y216_.ref (y216_.ptr ptrC_39) (y216_.2.1 _ finC_31).2.1)).2
                      have s761_ := g.smk
                      unfold SmK at s761_
                      have n1_ := rgI a8_753
                      have n2_ := rgI v10_5
                      have n3_ := rgI v10_1
                      have n4_ := rgI (qI U10 (qO U10 66 0) 2)
                      have n5_ := rgI v10_4
                      have n6_ := rgI v10_3
                      have n7_ := rgI r5_713
                      have n9_ := lo_1k
                      have n9_ := t_addD (a := v10_5) (b := Int32.ofInt 1)
                      have n10_ := rgI (v10_5 + Int32.ofInt 1)
                      omega
                · refine ⟨fun c762_ => ?_, fun c762_ => ?_⟩
                  · unfold w_X9_goThrough_J68
                    intro y219_ y220_
                    refine ⟨_, frX9_isDone y219_ (sgX9_isDone y219_ g (by have s764_ := (g.row (y219_.ref (y219_.ptr ptrC_39) (y219_.2.1 _ finC_31).2.1)).2; have s765_ := g.smk; unfold SmK at s765_; have n1_ := rgI v10_4; have n2_ := rgI v10_5; have n3_ := rgI v10_1; have n4_ := rgI (qI U10 (qO U10 66 0) 2); have n5_ := rgI v10_3; omega)), ?_⟩
                    intro r5_763 S6_763 q221_ y222_ y223_
                    have o766_ : qO S6_763 66 0 = qO U10 66 0 := qO_eq (q221_.2.kO (y219_.2.1 _ finC_31).2.1 (by decide) (by decide))
                    have t767_ : (qI S6_763 (qO S6_763 66 0) 4).toInt = (qI U10 (qO U10 66 0) 4).toInt := by rw [o766_]; exact congrArg Int32.toInt (q221_.2.kI (j := 4) (y219_.ref (y219_.ptr ptrC_39) (y219_.2.1 _ finC_31).2.1) (by decide) (by decide))
                    have t768_ : (qN S6_763 (qO S6_763 (qO S6_763 66 0) 1) : Int) = (qN U10 (qO U10 (qO U10 66 0) 1) : Int) := by rw [o766_]; exact q221_.2.kL (j := 1) y219_ (y219_.ref (y219_.ptr ptrC_39) (y219_.2.1 _ finC_31).2.1) (g.row (y219_.ref (y219_.ptr ptrC_39) (y219_.2.1 _ finC_31).2.1)).1.2.1 (by decide) (by decide)
                    have t769_ : (qN S6_763 (qO S6_763 (qO S6_763 66 0) 8) : Int) = (qN U10 (qO U10 (qO U10 66 0) 8) : Int) := by rw [o766_]; exact q221_.2.kL (j := 8) y219_ (y219_.ref (y219_.ptr ptrC_39) (y219_.2.1 _ finC_31).2.1) (g.row (y219_.ref (y219_.ptr ptrC_39) (y219_.2.1 _ finC_31).2.1)).1.2.2.2.2.2.2 (by decide) (by decide)
                    have t770_ : (qN S6_763 (qO S6_763 (qO S6_763 66 0) 7) : Int) = (qN U10 (qO U10 (qO U10 66 0) 7) : Int) := by rw [o766_]; exact q221_.2.kL (j := 7) y219_ (y219_.ref (y219_.ptr ptrC_39) (y219_.2.1 _ finC_31).2.1) (g.row (y219_.ref (y219_.ptr ptrC_39) (y219_.2.1 _ finC_31).2.1)).1.2.2.2.2.2.1 (by decide) (by decide)
                    have t771_ : (qN S6_763 (qO S6_763 (qO S6_763 66 0) 0) : Int) = (qN U10 (qO U10 (qO U10 66 0) 0) : Int) := by rw [o766_]; exact q221_.2.kL (j := 0) y219_ (y219_.ref (y219_.ptr ptrC_39) (y219_.2.1 _ finC_31).2.1) (g.row (y219_.ref (y219_.ptr ptrC_39) (y219_.2.1 _ finC_31).2.1)).1.1 (by decide) (by decide)
                    have t772_ : (qN S6_763 (qO S6_763 (qO S6_763 66 0) 6) : Int) = (qN U10 (qO U10 (qO U10 66 0) 6) : Int) := by rw [o766_]; exact q221_.2.kL (j := 6) y219_ (y219_.ref (y219_.ptr ptrC_39) (y219_.2.1 _ finC_31).2.1) (g.row (y219_.ref (y219_.ptr ptrC_39) (y219_.2.1 _ finC_31).2.1)).1.2.2.2.2.1 (by decide) (by decide)
                    have t773_ : (qN S6_763 (qO S6_763 (qO S6_763 66 0) 3) : Int) = (qN U10 (qO U10 (qO U10 66 0) 3) : Int) := by rw [o766_]; exact q221_.2.kL (j := 3) y219_ (y219_.ref (y219_.ptr ptrC_39) (y219_.2.1 _ finC_31).2.1) (g.row (y219_.ref (y219_.ptr ptrC_39) (y219_.2.1 _ finC_31).2.1)).1.2.2.1 (by decide) (by decide)
                    have t774_ : (qN S6_763 (qO S6_763 (qO S6_763 66 0) 5) : Int) = (qN U10 (qO U10 (qO U10 66 0) 5) : Int) := by rw [o766_]; exact q221_.2.kL (j := 5) y219_ (y219_.ref (y219_.ptr ptrC_39) (y219_.2.1 _ finC_31).2.1) (g.row (y219_.ref (y219_.ptr ptrC_39) (y219_.2.1 _ finC_31).2.1)).1.2.2.2.1 (by decide) (by decide)
                    have g : ShC B S6_763 := q221_.1.1
                    refine ⟨fun c775_ => ?_, fun c775_ => ?_⟩
                    · intro a10_776 ea10_776 
                      have ga10_776 := congrArg Int32.toInt ea10_776
                      unfold w_X9_goThrough_J98
                      intro y224_ y225_ y226_
                      intro a8_777 ea8_777 
                      have ga8_777 := congrArg Int32.toInt ea8_777
                      refine ih10 g ?_ ?_ ?_ ?_
                      · have s778_ := (g.row (y224_.ref (y224_.ptr ptrC_39) (y224_.2.1 _ finC_31).2.1)).2
                        have s779_ := g.smk
                        unfold SmK at s779_
                        have n1_ := rgI a8_777
                        have n2_ := rgI v10_5
                        have n3_ := rgI v10_1
                        have n4_ := rgI (qI U10 (qO U10 66 0) 2)
                        have n5_ := rgI v10_4
                        have n6_ := rgI v10_3
                        have n7_ := rgI r5_763
                        have n8_ := rgI a10_776
                        have n10_ := lo_1k
                        have n10_ := t_addD (a := v10_4) (b := Int32.ofInt 1)
                        have n11_ := rgI (v10_4 + Int32.ofInt 1)
                        have n12_ := t_addD (a := v10_5) (b := Int32.ofInt 1)
                        have n13_ := rgI (v10_5 + Int32.ofInt 1)
                        omega
                      · have s780_ := (g.row (y224_.ref (y224_.ptr ptrC_39) (y224_.2.1 _ finC_31).2.1)).2
                        have s781_ := g.smk
                        unfold SmK at s781_
                        have n1_ := rgI v10_1
                        have n2_ := rgI v10_5
                        have n3_ := rgI (qI U10 (qO U10 66 0) 2)
                        have n4_ := rgI v10_4
                        have n5_ := rgI v10_3
                        have n6_ := rgI r5_763
                        have n7_ := rgI a10_776
                        have n9_ := lo_1k
                        have n9_ := t_addD (a := v10_4) (b := Int32.ofInt 1)
                        have n10_ := rgI (v10_4 + Int32.ofInt 1)
                        have n11_ := rgI a8_777
                        have n12_ := t_addD (a := v10_5) (b := Int32.ofInt 1)
                        have n13_ := rgI (v10_5 + Int32.ofInt 1)
                        omega
                      · have s782_ := (g.row (y224_.ref (y224_.ptr ptrC_39) (y224_.2.1 _ finC_31).2.1)).2
                        have s783_ := g.smk
                        unfold SmK at s783_
                        have n1_ := rgI v10_1
                        have n2_ := rgI v10_5
                        have n3_ := rgI (qI U10 (qO U10 66 0) 2)
                        have n4_ := rgI v10_4
                        have n5_ := rgI v10_3
                        have n6_ := rgI r5_763
                        have n7_ := rgI a10_776
                        have n9_ := lo_1k
                        have n9_ := t_addD (a := v10_4) (b := Int32.ofInt 1)
                        have n10_ := rgI (v10_4 + Int32.ofInt 1)
                        have n11_ := rgI a8_777
                        have n12_ := t_addD (a := v10_5) (b := Int32.ofInt 1)
                        have n13_ := rgI (v10_5 + Int32.ofInt 1)
                        omega
                      · have s784_ := (g.row (y224_.ref (y224_.ptr ptrC_39) (y224_.2.1 _ finC_31).2.1)).2
                        have s785_ := g.smk
                        unfold SmK at s785_
                        have n1_ := rgI a8_777
                        have n2_ := rgI v10_5
                        have n3_ := rgI v10_1
                        have n4_ := rgI (qI U10 (qO U10 66 0) 2)
                        have n5_ := rgI v10_4
                        have n6_ := rgI v10_3
                        have n7_ := rgI r5_763
                        have n8_ := rgI a10_776
                        have n10_ := lo_1k
                        have n10_ := t_addD (a := v10_4) (b := Int32.ofInt 1)
                        have n11_ := rgI (v10_4 + Int32.ofInt 1)
                        have n12_ := t_addD (a := v10_5) (b := Int32.ofInt 1)
                        have n13_ := rgI (v10_5 + Int32.ofInt 1)
                        omega
                    · refine ⟨?_, ?_⟩
                      · have s786_ := (g.row (y222_.ref (y222_.ptr ptrC_39) (y222_.2.1 _ finC_31).2.1)).2
                        have s787_ := g.smk
                        unfold SmK at s787_
                        have n1_ := rgI v10_1
                        have n2_ := rgI v10_5
                        have n3_ := rgI (qI U10 (qO U10 66 0) 2)
                        have n4_ := rgI v10_4
                        have n5_ := rgI v10_3
                        have n6_ := rgI r5_763
                        omega
                      refine ⟨?_, ?_⟩
                      · have s788_ := (g.row (y222_.ref (y222_.ptr ptrC_39) (y222_.2.1 _ finC_31).2.1)).2
                        have s789_ := g.smk
                        unfold SmK at s789_
                        have n1_ := rgI v10_1
                        have n2_ := rgI v10_5
                        have n3_ := rgI (qI U10 (qO U10 66 0) 2)
                        have n4_ := rgI v10_4
                        have n5_ := rgI v10_3
                        have n6_ := rgI r5_763
                        omega
                      intro S15_790 eS15_790 y227_ y228_
                      have f791_ : cfr [228] [] S6_763 S15_790 := by rw [eS15_790]; exact cfr.aI y227_ (by decide)
                      have o792_ : qO S15_790 66 0 = qO S6_763 66 0 := qO_eq (f791_.kO (y222_.2.1 _ finC_31).2.1 (by decide) (by decide))
                      have t793_ : (qI S15_790 (qO S15_790 66 0) 4).toInt = (qI S6_763 (qO S6_763 66 0) 4).toInt := by rw [o792_]; exact congrArg Int32.toInt (f791_.kI (j := 4) (y222_.ref (y222_.ptr ptrC_39) (y222_.2.1 _ finC_31).2.1) (by decide) (by decide))
                      have t794_ : (qI S15_790 (qO S15_790 66 0) 9).toInt = (qI S6_763 (qO S6_763 66 0) 9).toInt := by rw [o792_]; exact congrArg Int32.toInt (f791_.kI (j := 9) (y222_.ref (y222_.ptr ptrC_39) (y222_.2.1 _ finC_31).2.1) (by decide) (by decide))
                      have t795_ : (qI S15_790 (qO S15_790 66 0) 2).toInt = (qI S6_763 (qO S6_763 66 0) 2).toInt := by rw [o792_]; exact congrArg Int32.toInt (f791_.kI (j := 2) (y222_.ref (y222_.ptr ptrC_39) (y222_.2.1 _ finC_31).2.1) (by decide) (by decide))
                      have t796_ : (qN S15_790 (qO S15_790 (qO S15_790 66 0) 1) : Int) = (qN S6_763 (qO S6_763 (qO S6_763 66 0) 1) : Int) := by rw [o792_]; exact f791_.kL (j := 1) y222_ (y222_.ref (y222_.ptr ptrC_39) (y222_.2.1 _ finC_31).2.1) (g.row (y222_.ref (y222_.ptr ptrC_39) (y222_.2.1 _ finC_31).2.1)).1.2.1 (by decide) (by decide)
                      have t797_ : (qN S15_790 (qO S15_790 (qO S15_790 66 0) 8) : Int) = (qN S6_763 (qO S6_763 (qO S6_763 66 0) 8) : Int) := by rw [o792_]; exact f791_.kL (j := 8) y222_ (y222_.ref (y222_.ptr ptrC_39) (y222_.2.1 _ finC_31).2.1) (g.row (y222_.ref (y222_.ptr ptrC_39) (y222_.2.1 _ finC_31).2.1)).1.2.2.2.2.2.2 (by decide) (by decide)
                      have t798_ : (qN S15_790 (qO S15_790 (qO S15_790 66 0) 7) : Int) = (qN S6_763 (qO S6_763 (qO S6_763 66 0) 7) : Int) := by rw [o792_]; exact f791_.kL (j := 7) y222_ (y222_.ref (y222_.ptr ptrC_39) (y222_.2.1 _ finC_31).2.1) (g.row (y222_.ref (y222_.ptr ptrC_39) (y222_.2.1 _ finC_31).2.1)).1.2.2.2.2.2.1 (by decide) (by decide)
                      have t799_ : (qN S15_790 (qO S15_790 (qO S15_790 66 0) 0) : Int) = (qN S6_763 (qO S6_763 (qO S6_763 66 0) 0) : Int) := by rw [o792_]; exact f791_.kL (j := 0) y222_ (y222_.ref (y222_.ptr ptrC_39) (y222_.2.1 _ finC_31).2.1) (g.row (y222_.ref (y222_.ptr ptrC_39) (y222_.2.1 _ finC_31).2.1)).1.1 (by decide) (by decide)
                      have t800_ : (qN S15_790 (qO S15_790 (qO S15_790 66 0) 6) : Int) = (qN S6_763 (qO S6_763 (qO S6_763 66 0) 6) : Int) := by rw [o792_]; exact f791_.kL (j := 6) y222_ (y222_.ref (y222_.ptr ptrC_39) (y222_.2.1 _ finC_31).2.1) (g.row (y222_.ref (y222_.ptr ptrC_39) (y222_.2.1 _ finC_31).2.1)).1.2.2.2.2.1 (by decide) (by decide)
                      have t801_ : (qN S15_790 (qO S15_790 (qO S15_790 66 0) 3) : Int) = (qN S6_763 (qO S6_763 (qO S6_763 66 0) 3) : Int) := by rw [o792_]; exact f791_.kL (j := 3) y222_ (y222_.ref (y222_.ptr ptrC_39) (y222_.2.1 _ finC_31).2.1) (g.row (y222_.ref (y222_.ptr ptrC_39) (y222_.2.1 _ finC_31).2.1)).1.2.2.1 (by decide) (by decide)
                      have t802_ : (qN S15_790 (qO S15_790 (qO S15_790 66 0) 5) : Int) = (qN S6_763 (qO S6_763 (qO S6_763 66 0) 5) : Int) := by rw [o792_]; exact f791_.kL (j := 5) y222_ (y222_.ref (y222_.ptr ptrC_39) (y222_.2.1 _ finC_31).2.1) (g.row (y222_.ref (y222_.ptr ptrC_39) (y222_.2.1 _ finC_31).2.1)).1.2.2.2.1 (by decide) (by decide)
                      have g : ShC B S15_790 := ShC.ws y222_ g f791_ (by rw [eS15_790]; rfl) (by rw [eS15_790]; rfl) (by rw [eS15_790]; rfl) rfl rfl
                      unfold w_X9_goThrough_J98
                      intro y229_ y230_ y231_
                      intro a8_803 ea8_803 
                      have ga8_803 := congrArg Int32.toInt ea8_803
                      refine ih10 g ?_ ?_ ?_ ?_
                      · have s804_ := (g.row (y229_.ref (y229_.ptr ptrC_39) (y229_.2.1 _ finC_31).2.1)).2
                        have s805_ := g.smk
                        unfold SmK at s805_
                        have n1_ := rgI a8_803
                        have n2_ := rgI v10_5
                        have n3_ := rgI v10_1
                        have n4_ := rgI (qI U10 (qO U10 66 0) 2)
                        have n5_ := rgI v10_4
                        have n6_ := rgI v10_3
                        have n7_ := rgI r5_763
                        have n9_ := lo_1k
                        have n9_ := t_addD (a := v10_5) (b := Int32.ofInt 1)
                        have n10_ := rgI (v10_5 + Int32.ofInt 1)
                        omega
                      · have s806_ := (g.row (y229_.ref (y229_.ptr ptrC_39) (y229_.2.1 _ finC_31).2.1)).2
                        have s807_ := g.smk
                        unfold SmK at s807_
                        have n1_ := rgI v10_1
                        have n2_ := rgI v10_5
                        have n3_ := rgI (qI U10 (qO U10 66 0) 2)
                        have n4_ := rgI v10_4
                        have n5_ := rgI v10_3
                        have n6_ := rgI r5_763
                        have n7_ := rgI a8_803
                        have n9_ := lo_1k
                        have n9_ := t_addD (a := v10_5) (b := Int32.ofInt 1)
                        have n10_ := rgI (v10_5 + Int32.ofInt 1)
                        omega
                      · have s808_ := (g.row (y229_.ref (y229_.ptr ptrC_39) (y229_.2.1 _ finC_31).2.1)).2
                        have s809_ := g.smk
                        unfold SmK at s809_
                        have n1_ := rgI v10_1
                        have n2_ := rgI v10_5
                        have n3_ := rgI (qI U10 (qO U10 66 0) 2)
                        have n4_ := rgI v10_4
                        have n5_ := rgI v10_3
                        have n6_ := rgI r5_763
                        have n7_ := rgI a8_803
                        have n9_ := lo_1k
                        have n9_ := t_addD (a := v10_5) (b := Int32.ofInt 1)
                        have n10_ := rgI (v10_5 + Int32.ofInt 1)
                        omega
                      · have s810_ := (g.row (y229_.ref (y229_.ptr ptrC_39) (y229_.2.1 _ finC_31).2.1)).2
                        have s811_ := g.smk
                        unfold SmK at s811_
                        have n1_ := rgI a8_803
                        have n2_ := rgI v10_5
                        have n3_ := rgI v10_1
                        have n4_ := rgI (qI U10 (qO U10 66 0) 2)
                        have n5_ := rgI v10_4
                        have n6_ := rgI v10_3
                        have n7_ := rgI r5_763
                        have n9_ := lo_1k
                        have n9_ := t_addD (a := v10_5) (b := Int32.ofInt 1)
                        have n10_ := rgI (v10_5 + Int32.ofInt 1)
                        omega
                  · refine ⟨_, frX9_findMarked y190_ (sgX9_findMarked y190_ g), ?_⟩
                    intro S20_812 q232_ y233_ y234_
                    have o813_ : qO S20_812 66 0 = qO U10 66 0 := qO_eq (q232_.2.kO (y190_.2.1 _ finC_31).2.1 (by decide) (by decide))
                    have t814_ : (qI S20_812 (qO S20_812 66 0) 4).toInt = (qI U10 (qO U10 66 0) 4).toInt := by rw [o813_]; exact congrArg Int32.toInt (q232_.2.kI (j := 4) (y190_.ref (y190_.ptr ptrC_39) (y190_.2.1 _ finC_31).2.1) (by decide) (by decide))
                    have t815_ : (qI S20_812 (qO S20_812 66 0) 9).toInt = (qI U10 (qO U10 66 0) 9).toInt := by rw [o813_]; exact congrArg Int32.toInt (q232_.2.kI (j := 9) (y190_.ref (y190_.ptr ptrC_39) (y190_.2.1 _ finC_31).2.1) (by decide) (by decide))
                    have t816_ : (qI S20_812 (qO S20_812 66 0) 2).toInt = (qI U10 (qO U10 66 0) 2).toInt := by rw [o813_]; exact congrArg Int32.toInt (q232_.2.kI (j := 2) (y190_.ref (y190_.ptr ptrC_39) (y190_.2.1 _ finC_31).2.1) (by decide) (by decide))
                    have t817_ : (qN S20_812 (qO S20_812 (qO S20_812 66 0) 1) : Int) = (qN U10 (qO U10 (qO U10 66 0) 1) : Int) := by rw [o813_]; exact q232_.2.kL (j := 1) y190_ (y190_.ref (y190_.ptr ptrC_39) (y190_.2.1 _ finC_31).2.1) (g.row (y190_.ref (y190_.ptr ptrC_39) (y190_.2.1 _ finC_31).2.1)).1.2.1 (by decide) (by decide)
                    have t818_ : (qN S20_812 (qO S20_812 (qO S20_812 66 0) 8) : Int) = (qN U10 (qO U10 (qO U10 66 0) 8) : Int) := by rw [o813_]; exact q232_.2.kL (j := 8) y190_ (y190_.ref (y190_.ptr ptrC_39) (y190_.2.1 _ finC_31).2.1) (g.row (y190_.ref (y190_.ptr ptrC_39) (y190_.2.1 _ finC_31).2.1)).1.2.2.2.2.2.2 (by decide) (by decide)
                    have t819_ : (qN S20_812 (qO S20_812 (qO S20_812 66 0) 7) : Int) = (qN U10 (qO U10 (qO U10 66 0) 7) : Int) := by rw [o813_]; exact q232_.2.kL (j := 7) y190_ (y190_.ref (y190_.ptr ptrC_39) (y190_.2.1 _ finC_31).2.1) (g.row (y190_.ref (y190_.ptr ptrC_39) (y190_.2.1 _ finC_31).2.1)).1.2.2.2.2.2.1 (by decide) (by decide)
                    have t820_ : (qN S20_812 (qO S20_812 (qO S20_812 66 0) 0) : Int) = (qN U10 (qO U10 (qO U10 66 0) 0) : Int) := by rw [o813_]; exact q232_.2.kL (j := 0) y190_ (y190_.ref (y190_.ptr ptrC_39) (y190_.2.1 _ finC_31).2.1) (g.row (y190_.ref (y190_.ptr ptrC_39) (y190_.2.1 _ finC_31).2.1)).1.1 (by decide) (by decide)
                    have t821_ : (qN S20_812 (qO S20_812 (qO S20_812 66 0) 6) : Int) = (qN U10 (qO U10 (qO U10 66 0) 6) : Int) := by rw [o813_]; exact q232_.2.kL (j := 6) y190_ (y190_.ref (y190_.ptr ptrC_39) (y190_.2.1 _ finC_31).2.1) (g.row (y190_.ref (y190_.ptr ptrC_39) (y190_.2.1 _ finC_31).2.1)).1.2.2.2.2.1 (by decide) (by decide)
                    have t822_ : (qN S20_812 (qO S20_812 (qO S20_812 66 0) 3) : Int) = (qN U10 (qO U10 (qO U10 66 0) 3) : Int) := by rw [o813_]; exact q232_.2.kL (j := 3) y190_ (y190_.ref (y190_.ptr ptrC_39) (y190_.2.1 _ finC_31).2.1) (g.row (y190_.ref (y190_.ptr ptrC_39) (y190_.2.1 _ finC_31).2.1)).1.2.2.1 (by decide) (by decide)
                    have t823_ : (qN S20_812 (qO S20_812 (qO S20_812 66 0) 5) : Int) = (qN U10 (qO U10 (qO U10 66 0) 5) : Int) := by rw [o813_]; exact q232_.2.kL (j := 5) y190_ (y190_.ref (y190_.ptr ptrC_39) (y190_.2.1 _ finC_31).2.1) (g.row (y190_.ref (y190_.ptr ptrC_39) (y190_.2.1 _ finC_31).2.1)).1.2.2.2.1 (by decide) (by decide)
                    have g : ShC B S20_812 := q232_.1.1
                    unfold w_X9_goThrough_J68
                    intro y235_ y236_
                    refine ⟨_, frX9_isDone y235_ (sgX9_isDone y235_ g (by have s825_ := (g.row (y235_.ref (y235_.ptr ptrC_39) (y235_.2.1 _ finC_31).2.1)).2; have s826_ := g.smk; unfold SmK at s826_; have n1_ := rgI v10_4; have n2_ := rgI v10_5; have n3_ := rgI v10_1; have n4_ := rgI (qI U10 (qO U10 66 0) 2); have n5_ := rgI v10_3; omega)), ?_⟩
                    intro r5_824 S6_824 q237_ y238_ y239_
                    have o827_ : qO S6_824 66 0 = qO S20_812 66 0 := qO_eq (q237_.2.kO (y235_.2.1 _ finC_31).2.1 (by decide) (by decide))
                    have t828_ : (qI S6_824 (qO S6_824 66 0) 4).toInt = (qI S20_812 (qO S20_812 66 0) 4).toInt := by rw [o827_]; exact congrArg Int32.toInt (q237_.2.kI (j := 4) (y235_.ref (y235_.ptr ptrC_39) (y235_.2.1 _ finC_31).2.1) (by decide) (by decide))
                    have t829_ : (qN S6_824 (qO S6_824 (qO S6_824 66 0) 1) : Int) = (qN S20_812 (qO S20_812 (qO S20_812 66 0) 1) : Int) := by rw [o827_]; exact q237_.2.kL (j := 1) y235_ (y235_.ref (y235_.ptr ptrC_39) (y235_.2.1 _ finC_31).2.1) (g.row (y235_.ref (y235_.ptr ptrC_39) (y235_.2.1 _ finC_31).2.1)).1.2.1 (by decide) (by decide)
                    have t830_ : (qN S6_824 (qO S6_824 (qO S6_824 66 0) 8) : Int) = (qN S20_812 (qO S20_812 (qO S20_812 66 0) 8) : Int) := by rw [o827_]; exact q237_.2.kL (j := 8) y235_ (y235_.ref (y235_.ptr ptrC_39) (y235_.2.1 _ finC_31).2.1) (g.row (y235_.ref (y235_.ptr ptrC_39) (y235_.2.1 _ finC_31).2.1)).1.2.2.2.2.2.2 (by decide) (by decide)
                    have t831_ : (qN S6_824 (qO S6_824 (qO S6_824 66 0) 7) : Int) = (qN S20_812 (qO S20_812 (qO S20_812 66 0) 7) : Int) := by rw [o827_]; exact q237_.2.kL (j := 7) y235_ (y235_.ref (y235_.ptr ptrC_39) (y235_.2.1 _ finC_31).2.1) (g.row (y235_.ref (y235_.ptr ptrC_39) (y235_.2.1 _ finC_31).2.1)).1.2.2.2.2.2.1 (by decide) (by decide)
                    have t832_ : (qN S6_824 (qO S6_824 (qO S6_824 66 0) 0) : Int) = (qN S20_812 (qO S20_812 (qO S20_812 66 0) 0) : Int) := by rw [o827_]; exact q237_.2.kL (j := 0) y235_ (y235_.ref (y235_.ptr ptrC_39) (y235_.2.1 _ finC_31).2.1) (g.row (y235_.ref (y235_.ptr ptrC_39) (y235_.2.1 _ finC_31).2.1)).1.1 (by decide) (by decide)
                    have t833_ : (qN S6_824 (qO S6_824 (qO S6_824 66 0) 6) : Int) = (qN S20_812 (qO S20_812 (qO S20_812 66 0) 6) : Int) := by rw [o827_]; exact q237_.2.kL (j := 6) y235_ (y235_.ref (y235_.ptr ptrC_39) (y235_.2.1 _ finC_31).2.1) (g.row (y235_.ref (y235_.ptr ptrC_39) (y235_.2.1 _ finC_31).2.1)).1.2.2.2.2.1 (by decide) (by decide)
                    have t834_ : (qN S6_824 (qO S6_824 (qO S6_824 66 0) 3) : Int) = (qN S20_812 (qO S20_812 (qO S20_812 66 0) 3) : Int) := by rw [o827_]; exact q237_.2.kL (j := 3) y235_ (y235_.ref (y235_.ptr ptrC_39) (y235_.2.1 _ finC_31).2.1) (g.row (y235_.ref (y235_.ptr ptrC_39) (y235_.2.1 _ finC_31).2.1)).1.2.2.1 (by decide) (by decide)
                    have t835_ : (qN S6_824 (qO S6_824 (qO S6_824 66 0) 5) : Int) = (qN S20_812 (qO S20_812 (qO S20_812 66 0) 5) : Int) := by rw [o827_]; exact q237_.2.kL (j := 5) y235_ (y235_.ref (y235_.ptr ptrC_39) (y235_.2.1 _ finC_31).2.1) (g.row (y235_.ref (y235_.ptr ptrC_39) (y235_.2.1 _ finC_31).2.1)).1.2.2.2.1 (by decide) (by decide)
                    have g : ShC B S6_824 := q237_.1.1
                    refine ⟨fun c836_ => ?_, fun c836_ => ?_⟩
                    · intro a10_837 ea10_837 
                      have ga10_837 := congrArg Int32.toInt ea10_837
                      unfold w_X9_goThrough_J98
                      intro y240_ y241_ y242_
                      intro a8_838 ea8_838 
                      have ga8_838 := congrArg Int32.toInt ea8_838
                      refine ih10 g ?_ ?_ ?_ ?_
                      · have s839_ := (g.row (y240_.ref (y240_.ptr ptrC_39) (y240_.2.1 _ finC_31).2.1)).2
                        have s840_ := g.smk
                        unfold SmK at s840_
                        have n1_ := rgI a8_838
                        have n2_ := rgI v10_5
                        have n3_ := rgI v10_1
                        have n4_ := rgI (qI U10 (qO U10 66 0) 2)
                        have n5_ := rgI v10_4
                        have n6_ := rgI v10_3
                        have n7_ := rgI r5_824
                        have n8_ := rgI a10_837
                        have n10_ := lo_1k
                        have n10_ := t_addD (a := v10_4) (b := Int32.ofInt 1)
                        have n11_ := rgI (v10_4 + Int32.ofInt 1)
                        have n12_ := t_addD (a := v10_5) (b := Int32.ofInt 1)
                        have n13_ := rgI (v10_5 + Int32.ofInt 1)
                        omega
                      · have s841_ := (g.row (y240_.ref (y240_.ptr ptrC_39) (y240_.2.1 _ finC_31).2.1)).2
                        have s842_ := g.smk
                        unfold SmK at s842_
                        have n1_ := rgI v10_1
                        have n2_ := rgI v10_5
                        have n3_ := rgI (qI U10 (qO U10 66 0) 2)
                        have n4_ := rgI v10_4
                        have n5_ := rgI v10_3
                        have n6_ := rgI r5_824
                        have n7_ := rgI a10_837
                        have n9_ := lo_1k
                        have n9_ := t_addD (a := v10_4) (b := Int32.ofInt 1)
                        have n10_ := rgI (v10_4 + Int32.ofInt 1)
                        have n11_ := rgI a8_838
                        have n12_ := t_addD (a := v10_5) (b := Int32.ofInt 1)
                        have n13_ := rgI (v10_5 + Int32.ofInt 1)
                        omega
                      · have s843_ := (g.row (y240_.ref (y240_.ptr ptrC_39) (y240_.2.1 _ finC_31).2.1)).2
                        have s844_ := g.smk
                        unfold SmK at s844_
                        have n1_ := rgI v10_1
                        have n2_ := rgI v10_5
                        have n3_ := rgI (qI U10 (qO U10 66 0) 2)
                        have n4_ := rgI v10_4
                        have n5_ := rgI v10_3
                        have n6_ := rgI r5_824
                        have n7_ := rgI a10_837
                        have n9_ := lo_1k
                        have n9_ := t_addD (a := v10_4) (b := Int32.ofInt 1)
                        have n10_ := rgI (v10_4 + Int32.ofInt 1)
                        have n11_ := rgI a8_838
                        have n12_ := t_addD (a := v10_5) (b := Int32.ofInt 1)
                        have n13_ := rgI (v10_5 + Int32.ofInt 1)
                        omega
                      · have s845_ := (g.row (y240_.ref (y240_.ptr ptrC_39) (y240_.2.1 _ finC_31).2.1)).2
                        have s846_ := g.smk
                        unfold SmK at s846_
                        have n1_ := rgI a8_838
                        have n2_ := rgI v10_5
                        have n3_ := rgI v10_1
                        have n4_ := rgI (qI U10 (qO U10 66 0) 2)
                        have n5_ := rgI v10_4
                        have n6_ := rgI v10_3
                        have n7_ := rgI r5_824
                        have n8_ := rgI a10_837
                        have n10_ := lo_1k
                        have n10_ := t_addD (a := v10_4) (b := Int32.ofInt 1)
                        have n11_ := rgI (v10_4 + Int32.ofInt 1)
                        have n12_ := t_addD (a := v10_5) (b := Int32.ofInt 1)
                        have n13_ := rgI (v10_5 + Int32.ofInt 1)
                        omega
                    · refine ⟨?_, ?_⟩
                      · have s847_ := (g.row (y238_.ref (y238_.ptr ptrC_39) (y238_.2.1 _ finC_31).2.1)).2
                        have s848_ := g.smk
                        unfold SmK at s848_
                        have n1_ := rgI v10_1
                        have n2_ := rgI v10_5
                        have n3_ := rgI (qI U10 (qO U10 66 0) 2)
                        have n4_ := rgI v10_4
                        have n5_ := rgI v10_3
                        have n6_ := rgI r5_824
                        omega
                      refine ⟨?_, ?_⟩
                      · have s849_ := (g.row (y238_.ref (y238_.ptr ptrC_39) (y238_.2.1 _ finC_31).2.1)).2
                        have s850_ := g.smk
                        unfold SmK at s850_
                        have n1_ := rgI v10_1
                        have n2_ := rgI v10_5
                        have n3_ := rgI (qI U10 (qO U10 66 0) 2)
                        have n4_ := rgI v10_4
                        have n5_ := rgI v10_3
                        have n6_ := rgI r5_824
                        omega
                      intro S15_851 eS15_851 y243_ y244_
                      have f852_ : cfr [228] [] S6_824 S15_851 := by rw [eS15_851]; exact cfr.aI y243_ (by decide)
                      have o853_ : qO S15_851 66 0 = qO S6_824 66 0 := qO_eq (f852_.kO (y238_.2.1 _ finC_31).2.1 (by decide) (by decide))
                      have t854_ : (qI S15_851 (qO S15_851 66 0) 4).toInt = (qI S6_824 (qO S6_824 66 0) 4).toInt := by rw [o853_]; exact congrArg Int32.toInt (f852_.kI (j := 4) (y238_.ref (y238_.ptr ptrC_39) (y238_.2.1 _ finC_31).2.1) (by decide) (by decide))
                      have t855_ : (qI S15_851 (qO S15_851 66 0) 9).toInt = (qI S6_824 (qO S6_824 66 0) 9).toInt := by rw [o853_]; exact congrArg Int32.toInt (f852_.kI (j := 9) (y238_.ref (y238_.ptr ptrC_39) (y238_.2.1 _ finC_31).2.1) (by decide) (by decide))
                      have t856_ : (qI S15_851 (qO S15_851 66 0) 2).toInt = (qI S6_824 (qO S6_824 66 0) 2).toInt := by rw [o853_]; exact congrArg Int32.toInt (f852_.kI (j := 2) (y238_.ref (y238_.ptr ptrC_39) (y238_.2.1 _ finC_31).2.1) (by decide) (by decide))
                      have t857_ : (qN S15_851 (qO S15_851 (qO S15_851 66 0) 1) : Int) = (qN S6_824 (qO S6_824 (qO S6_824 66 0) 1) : Int) := by rw [o853_]; exact f852_.kL (j := 1) y238_ (y238_.ref (y238_.ptr ptrC_39) (y238_.2.1 _ finC_31).2.1) (g.row (y238_.ref (y238_.ptr ptrC_39) (y238_.2.1 _ finC_31).2.1)).1.2.1 (by decide) (by decide)
                      have t858_ : (qN S15_851 (qO S15_851 (qO S15_851 66 0) 8) : Int) = (qN S6_824 (qO S6_824 (qO S6_824 66 0) 8) : Int) := by rw [o853_]; exact f852_.kL (j := 8) y238_ (y238_.ref (y238_.ptr ptrC_39) (y238_.2.1 _ finC_31).2.1) (g.row (y238_.ref (y238_.ptr ptrC_39) (y238_.2.1 _ finC_31).2.1)).1.2.2.2.2.2.2 (by decide) (by decide)
                      have t859_ : (qN S15_851 (qO S15_851 (qO S15_851 66 0) 7) : Int) = (qN S6_824 (qO S6_824 (qO S6_824 66 0) 7) : Int) := by rw [o853_]; exact f852_.kL (j := 7) y238_ (y238_.ref (y238_.ptr ptrC_39) (y238_.2.1 _ finC_31).2.1) (g.row (y238_.ref (y238_.ptr ptrC_39) (y238_.2.1 _ finC_31).2.1)).1.2.2.2.2.2.1 (by decide) (by decide)
                      have t860_ : (qN S15_851 (qO S15_851 (qO S15_851 66 0) 0) : Int) = (qN S6_824 (qO S6_824 (qO S6_824 66 0) 0) : Int) := by rw [o853_]; exact f852_.kL (j := 0) y238_ (y238_.ref (y238_.ptr ptrC_39) (y238_.2.1 _ finC_31).2.1) (g.row (y238_.ref (y238_.ptr ptrC_39) (y238_.2.1 _ finC_31).2.1)).1.1 (by decide) (by decide)
                      have t861_ : (qN S15_851 (qO S15_851 (qO S15_851 66 0) 6) : Int) = (qN S6_824 (qO S6_824 (qO S6_824 66 0) 6) : Int) := by rw [o853_]; exact f852_.kL (j := 6) y238_ (y238_.ref (y238_.ptr ptrC_39) (y238_.2.1 _ finC_31).2.1) (g.row (y238_.ref (y238_.ptr ptrC_39) (y238_.2.1 _ finC_31).2.1)).1.2.2.2.2.1 (by decide) (by decide)
                      have t862_ : (qN S15_851 (qO S15_851 (qO S15_851 66 0) 3) : Int) = (qN S6_824 (qO S6_824 (qO S6_824 66 0) 3) : Int) := by rw [o853_]; exact f852_.kL (j := 3) y238_ (y238_.ref (y238_.ptr ptrC_39) (y238_.2.1 _ finC_31).2.1) (g.row (y238_.ref (y238_.ptr ptrC_39) (y238_.2.1 _ finC_31).2.1)).1.2.2.1 (by decide) (by decide)
                      have t863_ : (qN S15_851 (qO S15_851 (qO S15_851 66 0) 5) : Int) = (qN S6_824 (qO S6_824 (qO S6_824 66 0) 5) : Int) := by rw [o853_]; exact f852_.kL (j := 5) y238_ (y238_.ref (y238_.ptr ptrC_39) (y238_.2.1 _ finC_31).2.1) (g.row (y238_.ref (y238_.ptr ptrC_39) (y238_.2.1 _ finC_31).2.1)).1.2.2.2.1 (by decide) (by decide)
                      have g : ShC B S15_851 := ShC.ws y238_ g f852_ (by rw [eS15_851]; rfl) (by rw [eS15_851]; rfl) (by rw [eS15_851]; rfl) rfl rfl
                      unfold w_X9_goThrough_J98
                      intro y245_ y246_ y247_
                      intro a8_864 ea8_864 
                      have ga8_864 := congrArg Int32.toInt ea8_864
                      refine ih10 g ?_ ?_ ?_ ?_
                      · have s865_ := (g.row (y245_.ref (y245_.ptr ptrC_39) (y245_.2.1 _ finC_31).2.1)).2
                        have s866_ := g.smk
                        unfold SmK at s866_
                        have n1_ := rgI a8_864
                        have n2_ := rgI v10_5
                        have n3_ := rgI v10_1
                        have n4_ := rgI (qI U10 (qO U10 66 0) 2)
                        have n5_ := rgI v10_4
                        have n6_ := rgI v10_3
                        have n7_ := rgI r5_824
                        have n9_ := lo_1k
                        have n9_ := t_addD (a := v10_5) (b := Int32.ofInt 1)
                        have n10_ := rgI (v10_5 + Int32.ofInt 1)
                        omega
                      · have s867_ := (g.row (y245_.ref (y245_.ptr ptrC_39) (y245_.2.1 _ finC_31).2.1)).2
                        have s868_ := g.smk
                        unfold SmK at s868_
                        have n1_ := rgI v10_1
                        have n2_ := rgI v10_5
                        have n3_ := rgI (qI U10 (qO U10 66 0) 2)
                        have n4_ := rgI v10_4
                        have n5_ := rgI v10_3
                        have n6_ := rgI r5_824
                        have n7_ := rgI a8_864
                        have n9_ := lo_1k
                        have n9_ := t_addD (a := v10_5) (b := Int32.ofInt 1)
                        have n10_ := rgI (v10_5 + Int32.ofInt 1)
                        omega
                      · have s869_ := (g.row (y245_.ref (y245_.ptr ptrC_39) (y245_.2.1 _ finC_31).2.1)).2
                        have s870_ := g.smk
                        unfold SmK at s870_
                        have n1_ := rgI v10_1
                        have n2_ := rgI v10_5
                        have n3_ := rgI (qI U10 (qO U10 66 0) 2)
                        have n4_ := rgI v10_4
                        have n5_ := rgI v10_3
                        have n6_ := rgI r5_824
                        have n7_ := rgI a8_864
                        have n9_ := lo_1k
                        have n9_ := t_addD (a := v10_5) (b := Int32.ofInt 1)
                        have n10_ := rgI (v10_5 + Int32.ofInt 1)
                        omega
                      · have s871_ := (g.row (y245_.ref (y245_.ptr ptrC_39) (y245_.2.1 _ finC_31).2.1)).2
                        have s872_ := g.smk
                        unfold SmK at s872_
                        have n1_ := rgI a8_864
                        have n2_ := rgI v10_5
                        have n3_ := rgI v10_1
                        have n4_ := rgI (qI U10 (qO U10 66 0) 2)
                        have n5_ := rgI v10_4
                        have n6_ := rgI v10_3
                        have n7_ := rgI r5_824
                        have n9_ := lo_1k
                        have n9_ := t_addD (a := v10_5) (b := Int32.ofInt 1)
                        have n10_ := rgI (v10_5 + Int32.ofInt 1)
                        omega
set_option maxRecDepth 100000 in
theorem sgX9_goThrough {B : Nat × Nat} {S : MS} {x1 : Int32} (hw : wfC S) (g : ShC B S) (a0_ : 1 ≤ x1.toInt) (a1_ : x1.toInt ≤ 11) : wX9_goThrough S x1 (fun _ u => ShC B u ∧ (True)) := by
  unfold wX9_goThrough
  refine ⟨(2147483648 - (0 : Int32).toInt).toNat + 1, ?_⟩
  refine sg_X9_goThrough_L10  _ g ?_ ?_ ?_ ?_
  · have s873_ := (g.row (hw.ref (hw.ptr ptrC_39) (hw.2.1 _ finC_31).2.1)).2
    have s874_ := g.smk
    unfold SmK at s874_
    have n1_ := li_0k
    have n2_ := rgI x1
    omega
  · have s875_ := (g.row (hw.ref (hw.ptr ptrC_39) (hw.2.1 _ finC_31).2.1)).2
    have s876_ := g.smk
    unfold SmK at s876_
    have n1_ := rgI x1
    omega
  · have s877_ := (g.row (hw.ref (hw.ptr ptrC_39) (hw.2.1 _ finC_31).2.1)).2
    have s878_ := g.smk
    unfold SmK at s878_
    have n1_ := rgI x1
    omega
  · have s879_ := (g.row (hw.ref (hw.ptr ptrC_39) (hw.2.1 _ finC_31).2.1)).2
    have s880_ := g.smk
    unfold SmK at s880_
    have n1_ := li_0k
    have n2_ := rgI x1
    omega
