set_option maxRecDepth 100000 in
theorem sg_X1_comeTo_L50 {B : Nat × Nat} : ∀ (n : Nat) {U50 : MS} {v50_1 : Int32} {v50_2 : Int32} {v50_3 : Int32} {v50_4 : Int32}, ShC B U50 → qR U50 16 9 = some (qO U50 16 9) → 0 ≤ v50_4.toInt → 0 ≤ v50_1.toInt → v50_1.toInt < (qN U50 (qO U50 16 2) : Int) → v50_2.toInt = 48 * v50_1.toInt → 2147483648 - v50_4.toInt < n → w_X1_comeTo_L50 (fun u => ShC B u ∧ (True)) n U50 v50_1 v50_2 v50_3 v50_4 := by
  intro n
  induction n with
  | zero => intro U50 v50_1 v50_2 v50_3 v50_4 g h0_ j0_ j1_ j2_ j3_ hm_; exfalso; have := rgI v50_1; have := rgI v50_2; have := rgI v50_3; have := rgI v50_4; omega
  | succ n ih50 =>
    intro U50 v50_1 v50_2 v50_3 v50_4 g h0_ j0_ j1_ j2_ j3_ hm_
    unfold w_X1_comeTo_L50
    intro y1_ y2_
    refine ⟨fun c0_ => ?_, fun c0_ => ?_⟩
    · unfold w_X1_comeTo_J152
      intro y3_
      refine ⟨?_, ?_⟩
      · have s1_ := (g.row (y3_.ref h0_ (y3_.2.1 _ finC_27).2.1)).2
        have s2_ := y3_.len9 (y3_.ref (y3_.ptr ptrC_4) (y3_.2.1 _ finC_27).2.1) (by decide)
        have s3_ := y3_.len9 (y3_.ref (y3_.ptr ptrC_5) (y3_.2.1 _ finC_27).2.1) (by decide)
        have s4_ := y3_.len9 (y3_.ref (y3_.ptr ptrC_6) (y3_.2.1 _ finC_27).2.1) (by decide)
        have s5_ := g.chk
        unfold ChKk at s5_
        have n1_ := rgI v50_1
        have n2_ := rgI v50_4
        have n3_ := rgI v50_2
        have n5_ := li_24k
        have n6_ := rgI (qI U50 16 5)
        have n6_ := t_addD (a := (24 : Int32)) (b := (qI U50 16 5))
        have n7_ := rgI ((24 : Int32) + (qI U50 16 5))
        omega
      intro S18_6 eS18_6 y4_ y5_
      have f7_ : cfr [301] [] U50 S18_6 := by rw [eS18_6]; exact cfr.aI y4_ (by decide)
      have o8_ : qO S18_6 16 9 = qO U50 16 9 := qO_eq (f7_.kO (y3_.2.1 _ finC_27).2.1 (by decide) (by decide))
      have t9_ : (qI S18_6 (qO S18_6 16 9) 4).toInt = (qI U50 (qO U50 16 9) 4).toInt := by rw [o8_]; exact congrArg Int32.toInt (f7_.kI (j := 4) (y3_.ref h0_ (y3_.2.1 _ finC_27).2.1) (by decide) (by decide))
      have t10_ : (qI S18_6 (qO S18_6 16 9) 2).toInt = (qI U50 (qO U50 16 9) 2).toInt := by rw [o8_]; exact congrArg Int32.toInt (f7_.kI (j := 2) (y3_.ref h0_ (y3_.2.1 _ finC_27).2.1) (by decide) (by decide))
      have t11_ : (qI S18_6 (qO S18_6 16 9) 9).toInt = (qI U50 (qO U50 16 9) 9).toInt := by rw [o8_]; exact congrArg Int32.toInt (f7_.kI (j := 9) (y3_.ref h0_ (y3_.2.1 _ finC_27).2.1) (by decide) (by decide))
      have t12_ : (qN S18_6 (qO S18_6 (qO S18_6 16 9) 1) : Int) = (qN U50 (qO U50 (qO U50 16 9) 1) : Int) := by rw [o8_]; exact f7_.kL (j := 1) y3_ (y3_.ref h0_ (y3_.2.1 _ finC_27).2.1) (g.row (y3_.ref h0_ (y3_.2.1 _ finC_27).2.1)).1.2.1 (by decide) (by decide)
      have t13_ : (qN S18_6 (qO S18_6 (qO S18_6 16 9) 8) : Int) = (qN U50 (qO U50 (qO U50 16 9) 8) : Int) := by rw [o8_]; exact f7_.kL (j := 8) y3_ (y3_.ref h0_ (y3_.2.1 _ finC_27).2.1) (g.row (y3_.ref h0_ (y3_.2.1 _ finC_27).2.1)).1.2.2.2.2.2.2 (by decide) (by decide)
      have t14_ : (qN S18_6 (qO S18_6 (qO S18_6 16 9) 7) : Int) = (qN U50 (qO U50 (qO U50 16 9) 7) : Int) := by rw [o8_]; exact f7_.kL (j := 7) y3_ (y3_.ref h0_ (y3_.2.1 _ finC_27).2.1) (g.row (y3_.ref h0_ (y3_.2.1 _ finC_27).2.1)).1.2.2.2.2.2.1 (by decide) (by decide)
      have t15_ : (qN S18_6 (qO S18_6 (qO S18_6 16 9) 0) : Int) = (qN U50 (qO U50 (qO U50 16 9) 0) : Int) := by rw [o8_]; exact f7_.kL (j := 0) y3_ (y3_.ref h0_ (y3_.2.1 _ finC_27).2.1) (g.row (y3_.ref h0_ (y3_.2.1 _ finC_27).2.1)).1.1 (by decide) (by decide)
      have t16_ : (qN S18_6 (qO S18_6 (qO S18_6 16 9) 6) : Int) = (qN U50 (qO U50 (qO U50 16 9) 6) : Int) := by rw [o8_]; exact f7_.kL (j := 6) y3_ (y3_.ref h0_ (y3_.2.1 _ finC_27).2.1) (g.row (y3_.ref h0_ (y3_.2.1 _ finC_27).2.1)).1.2.2.2.2.1 (by decide) (by decide)
      have t17_ : (qN S18_6 (qO S18_6 (qO S18_6 16 9) 3) : Int) = (qN U50 (qO U50 (qO U50 16 9) 3) : Int) := by rw [o8_]; exact f7_.kL (j := 3) y3_ (y3_.ref h0_ (y3_.2.1 _ finC_27).2.1) (g.row (y3_.ref h0_ (y3_.2.1 _ finC_27).2.1)).1.2.2.1 (by decide) (by decide)
      have t18_ : (qN S18_6 (qO S18_6 (qO S18_6 16 9) 5) : Int) = (qN U50 (qO U50 (qO U50 16 9) 5) : Int) := by rw [o8_]; exact f7_.kL (j := 5) y3_ (y3_.ref h0_ (y3_.2.1 _ finC_27).2.1) (g.row (y3_.ref h0_ (y3_.2.1 _ finC_27).2.1)).1.2.2.2.1 (by decide) (by decide)
      have t19_ : (qI S18_6 16 5).toInt = (qI U50 16 5).toInt := congrArg Int32.toInt (f7_.kI (j := 5) (y3_.2.1 _ finC_27).2.1 (by decide) (by decide))
      have t20_ : (qN S18_6 (qO S18_6 16 1) : Int) = (qN U50 (qO U50 16 1) : Int) := f7_.kL (j := 1) y3_ (y3_.2.1 _ finC_27).2.1 (y3_.ptr ptrC_4) (by decide) (by decide)
      have t21_ : (qN S18_6 (qO S18_6 16 3) : Int) = (qN U50 (qO U50 16 3) : Int) := f7_.kL (j := 3) y3_ (y3_.2.1 _ finC_27).2.1 (y3_.ptr ptrC_6) (by decide) (by decide)
      have t22_ : (qN S18_6 (qO S18_6 16 2) : Int) = (qN U50 (qO U50 16 2) : Int) := f7_.kL (j := 2) y3_ (y3_.2.1 _ finC_27).2.1 (y3_.ptr ptrC_5) (by decide) (by decide)
      have p23_ : qR S18_6 16 9 = some (qO S18_6 16 9) := f7_.kP (y3_.2.1 _ finC_27).2.1 h0_ (by decide) (by decide)
      have g : ShC B S18_6 := ShC.ws y3_ g f7_ (by rw [eS18_6]; rfl) (by rw [eS18_6]; rfl) (by rw [eS18_6]; rfl) rfl rfl
      exact ⟨g, trivial⟩
    · refine ⟨fun c24_ => ?_, fun c24_ => ?_⟩
      · unfold w_X1_comeTo_J152
        intro y6_
        refine ⟨?_, ?_⟩
        · have s25_ := (g.row (y6_.ref h0_ (y6_.2.1 _ finC_27).2.1)).2
          have s26_ := y6_.len9 (y6_.ref (y6_.ptr ptrC_4) (y6_.2.1 _ finC_27).2.1) (by decide)
          have s27_ := y6_.len9 (y6_.ref (y6_.ptr ptrC_5) (y6_.2.1 _ finC_27).2.1) (by decide)
          have s28_ := y6_.len9 (y6_.ref (y6_.ptr ptrC_6) (y6_.2.1 _ finC_27).2.1) (by decide)
          have s29_ := g.chk
          unfold ChKk at s29_
          have n1_ := rgI v50_1
          have n2_ := rgI v50_4
          have n3_ := rgI v50_2
          have n5_ := li_24k
          have n6_ := rgI (qI U50 16 5)
          have n6_ := t_addD (a := (24 : Int32)) (b := (qI U50 16 5))
          have n7_ := rgI ((24 : Int32) + (qI U50 16 5))
          omega
        intro S18_30 eS18_30 y7_ y8_
        have f31_ : cfr [301] [] U50 S18_30 := by rw [eS18_30]; exact cfr.aI y7_ (by decide)
        have o32_ : qO S18_30 16 9 = qO U50 16 9 := qO_eq (f31_.kO (y6_.2.1 _ finC_27).2.1 (by decide) (by decide))
        have t33_ : (qI S18_30 (qO S18_30 16 9) 4).toInt = (qI U50 (qO U50 16 9) 4).toInt := by rw [o32_]; exact congrArg Int32.toInt (f31_.kI (j := 4) (y6_.ref h0_ (y6_.2.1 _ finC_27).2.1) (by decide) (by decide))
        have t34_ : (qI S18_30 (qO S18_30 16 9) 2).toInt = (qI U50 (qO U50 16 9) 2).toInt := by rw [o32_]; exact congrArg Int32.toInt (f31_.kI (j := 2) (y6_.ref h0_ (y6_.2.1 _ finC_27).2.1) (by decide) (by decide))
        have t35_ : (qI S18_30 (qO S18_30 16 9) 9).toInt = (qI U50 (qO U50 16 9) 9).toInt := by rw [o32_]; exact congrArg Int32.toInt (f31_.kI (j := 9) (y6_.ref h0_ (y6_.2.1 _ finC_27).2.1) (by decide) (by decide))
        have t36_ : (qN S18_30 (qO S18_30 (qO S18_30 16 9) 1) : Int) = (qN U50 (qO U50 (qO U50 16 9) 1) : Int) := by rw [o32_]; exact f31_.kL (j := 1) y6_ (y6_.ref h0_ (y6_.2.1 _ finC_27).2.1) (g.row (y6_.ref h0_ (y6_.2.1 _ finC_27).2.1)).1.2.1 (by decide) (by decide)
        have t37_ : (qN S18_30 (qO S18_30 (qO S18_30 16 9) 8) : Int) = (qN U50 (qO U50 (qO U50 16 9) 8) : Int) := by rw [o32_]; exact f31_.kL (j := 8) y6_ (y6_.ref h0_ (y6_.2.1 _ finC_27).2.1) (g.row (y6_.ref h0_ (y6_.2.1 _ finC_27).2.1)).1.2.2.2.2.2.2 (by decide) (by decide)
        have t38_ : (qN S18_30 (qO S18_30 (qO S18_30 16 9) 7) : Int) = (qN U50 (qO U50 (qO U50 16 9) 7) : Int) := by rw [o32_]; exact f31_.kL (j := 7) y6_ (y6_.ref h0_ (y6_.2.1 _ finC_27).2.1) (g.row (y6_.ref h0_ (y6_.2.1 _ finC_27).2.1)).1.2.2.2.2.2.1 (by decide) (by decide)
        have t39_ : (qN S18_30 (qO S18_30 (qO S18_30 16 9) 0) : Int) = (qN U50 (qO U50 (qO U50 16 9) 0) : Int) := by rw [o32_]; exact f31_.kL (j := 0) y6_ (y6_.ref h0_ (y6_.2.1 _ finC_27).2.1) (g.row (y6_.ref h0_ (y6_.2.1 _ finC_27).2.1)).1.1 (by decide) (by decide)
        have t40_ : (qN S18_30 (qO S18_30 (qO S18_30 16 9) 6) : Int) = (qN U50 (qO U50 (qO U50 16 9) 6) : Int) := by rw [o32_]; exact f31_.kL (j := 6) y6_ (y6_.ref h0_ (y6_.2.1 _ finC_27).2.1) (g.row (y6_.ref h0_ (y6_.2.1 _ finC_27).2.1)).1.2.2.2.2.1 (by decide) (by decide)
        have t41_ : (qN S18_30 (qO S18_30 (qO S18_30 16 9) 3) : Int) = (qN U50 (qO U50 (qO U50 16 9) 3) : Int) := by rw [o32_]; exact f31_.kL (j := 3) y6_ (y6_.ref h0_ (y6_.2.1 _ finC_27).2.1) (g.row (y6_.ref h0_ (y6_.2.1 _ finC_27).2.1)).1.2.2.1 (by decide) (by decide)
        have t42_ : (qN S18_30 (qO S18_30 (qO S18_30 16 9) 5) : Int) = (qN U50 (qO U50 (qO U50 16 9) 5) : Int) := by rw [o32_]; exact f31_.kL (j := 5) y6_ (y6_.ref h0_ (y6_.2.1 _ finC_27).2.1) (g.row (y6_.ref h0_ (y6_.2.1 _ finC_27).2.1)).1.2.2.2.1 (by decide) (by decide)
        have t43_ : (qI S18_30 16 5).toInt = (qI U50 16 5).toInt := congrArg Int32.toInt (f31_.kI (j := 5) (y6_.2.1 _ finC_27).2.1 (by decide) (by decide))
        have t44_ : (qN S18_30 (qO S18_30 16 1) : Int) = (qN U50 (qO U50 16 1) : Int) := f31_.kL (j := 1) y6_ (y6_.2.1 _ finC_27).2.1 (y6_.ptr ptrC_4) (by decide) (by decide)
        have t45_ : (qN S18_30 (qO S18_30 16 3) : Int) = (qN U50 (qO U50 16 3) : Int) := f31_.kL (j := 3) y6_ (y6_.2.1 _ finC_27).2.1 (y6_.ptr ptrC_6) (by decide) (by decide)
        have t46_ : (qN S18_30 (qO S18_30 16 2) : Int) = (qN U50 (qO U50 16 2) : Int) := f31_.kL (j := 2) y6_ (y6_.2.1 _ finC_27).2.1 (y6_.ptr ptrC_5) (by decide) (by decide)
        have p47_ : qR S18_30 16 9 = some (qO S18_30 16 9) := f31_.kP (y6_.2.1 _ finC_27).2.1 h0_ (by decide) (by decide)
        have g : ShC B S18_30 := ShC.ws y6_ g f31_ (by rw [eS18_30]; rfl) (by rw [eS18_30]; rfl) (by rw [eS18_30]; rfl) rfl rfl
        exact ⟨g, trivial⟩
      · refine ⟨fun c48_ => ?_, fun c48_ => ?_⟩
        · refine ⟨?_, ?_⟩
          · have s49_ := (g.row (y1_.ref h0_ (y1_.2.1 _ finC_27).2.1)).2
            have s50_ := y1_.len9 (y1_.ref (y1_.ptr ptrC_4) (y1_.2.1 _ finC_27).2.1) (by decide)
            have s51_ := y1_.len9 (y1_.ref (y1_.ptr ptrC_5) (y1_.2.1 _ finC_27).2.1) (by decide)
            have s52_ := y1_.len9 (y1_.ref (y1_.ptr ptrC_6) (y1_.2.1 _ finC_27).2.1) (by decide)
            have s53_ := g.chk
            unfold ChKk at s53_
            have n2_ := rgI v50_2
            have n3_ := rgI v50_4
            have n3_ := t_addD (a := v50_2) (b := v50_4)
            have n4_ := rgI (v50_2 + v50_4)
            have n5_ := rgI v50_1
            have n7_ := li_24k
            have n8_ := rgI (qI U50 16 5)
            have n8_ := t_addD (a := (24 : Int32)) (b := (qI U50 16 5))
            have n9_ := rgI ((24 : Int32) + (qI U50 16 5))
            have n10_ := rgI v50_3
            omega
          refine ⟨?_, ?_⟩
          · have s54_ := (g.row (y1_.ref h0_ (y1_.2.1 _ finC_27).2.1)).2
            have s55_ := y1_.len9 (y1_.ref (y1_.ptr ptrC_4) (y1_.2.1 _ finC_27).2.1) (by decide)
            have s56_ := y1_.len9 (y1_.ref (y1_.ptr ptrC_5) (y1_.2.1 _ finC_27).2.1) (by decide)
            have s57_ := y1_.len9 (y1_.ref (y1_.ptr ptrC_6) (y1_.2.1 _ finC_27).2.1) (by decide)
            have s58_ := g.chk
            unfold ChKk at s58_
            have n1_ := rgI v50_4
            have n2_ := rgI v50_1
            have n3_ := rgI v50_2
            have n5_ := li_24k
            have n6_ := rgI (qI U50 16 5)
            have n6_ := t_addD (a := (24 : Int32)) (b := (qI U50 16 5))
            have n7_ := rgI ((24 : Int32) + (qI U50 16 5))
            have n8_ := rgI v50_3
            omega
          refine ⟨?_, ?_⟩
          · exact dd_X1_join
          unfold w_X1_comeTo_J102
          intro y9_ y10_
          refine ⟨fun c59_ => ?_, fun c59_ => ?_⟩
          · refine ⟨?_, ?_⟩
            · have s60_ := (g.row (y9_.ref h0_ (y9_.2.1 _ finC_27).2.1)).2
              have s61_ := y9_.len9 (y9_.ref (y9_.ptr ptrC_4) (y9_.2.1 _ finC_27).2.1) (by decide)
              have s62_ := y9_.len9 (y9_.ref (y9_.ptr ptrC_5) (y9_.2.1 _ finC_27).2.1) (by decide)
              have s63_ := y9_.len9 (y9_.ref (y9_.ptr ptrC_6) (y9_.2.1 _ finC_27).2.1) (by decide)
              have s64_ := g.chk
              unfold ChKk at s64_
              have n2_ := rgI v50_2
              have n3_ := rgI v50_4
              have n3_ := t_addD (a := v50_2) (b := v50_4)
              have n4_ := rgI (v50_2 + v50_4)
              have n5_ := rgI v50_1
              have n7_ := li_24k
              have n8_ := rgI (qI U50 16 5)
              have n8_ := t_addD (a := (24 : Int32)) (b := (qI U50 16 5))
              have n9_ := rgI ((24 : Int32) + (qI U50 16 5))
              have n10_ := rgI v50_3
              omega
            refine ⟨fun c65_ => ?_, fun c65_ => ?_⟩
            · unfold w_X1_comeTo_J146
              intro y11_ y12_
              intro a21_66 ea21_66 
              have ga21_66 := congrArg Int32.toInt ea21_66
              refine ih50 g h0_ ?_ ?_ ?_ ?_ ?_
              · have s67_ := (g.row (y11_.ref h0_ (y11_.2.1 _ finC_27).2.1)).2
                have s68_ := y11_.len9 (y11_.ref (y11_.ptr ptrC_4) (y11_.2.1 _ finC_27).2.1) (by decide)
                have s69_ := y11_.len9 (y11_.ref (y11_.ptr ptrC_5) (y11_.2.1 _ finC_27).2.1) (by decide)
                have s70_ := y11_.len9 (y11_.ref (y11_.ptr ptrC_6) (y11_.2.1 _ finC_27).2.1) (by decide)
                have s71_ := g.chk
                unfold ChKk at s71_
                have n1_ := rgI a21_66
                have n2_ := rgI v50_4
                have n3_ := rgI v50_1
                have n4_ := rgI v50_2
                have n6_ := li_24k
                have n7_ := rgI (qI U50 16 5)
                have n7_ := t_addD (a := (24 : Int32)) (b := (qI U50 16 5))
                have n8_ := rgI ((24 : Int32) + (qI U50 16 5))
                have n9_ := rgI v50_3
                have n10_ := t_addD (a := v50_2) (b := v50_4)
                have n11_ := rgI (v50_2 + v50_4)
                have n12_ := rgI (fX1_join U50 (qI U50 (qO U50 16 1) (((v50_2 + v50_4).toInt).toNat)) (qI U50 24 v50_4.toInt.toNat))
                have n13_ := rgI (qI U50 (qO U50 16 1) (((v50_2 + v50_4).toInt).toNat))
                have n15_ := lo_1k
                have n15_ := t_addD (a := v50_4) (b := Int32.ofInt 1)
                have n16_ := rgI (v50_4 + Int32.ofInt 1)
                omega
              · have s72_ := (g.row (y11_.ref h0_ (y11_.2.1 _ finC_27).2.1)).2
                have s73_ := y11_.len9 (y11_.ref (y11_.ptr ptrC_4) (y11_.2.1 _ finC_27).2.1) (by decide)
                have s74_ := y11_.len9 (y11_.ref (y11_.ptr ptrC_5) (y11_.2.1 _ finC_27).2.1) (by decide)
                have s75_ := y11_.len9 (y11_.ref (y11_.ptr ptrC_6) (y11_.2.1 _ finC_27).2.1) (by decide)
                have s76_ := g.chk
                unfold ChKk at s76_
                have n1_ := rgI v50_1
                have n2_ := rgI v50_4
                have n3_ := rgI v50_2
                have n5_ := li_24k
                have n6_ := rgI (qI U50 16 5)
                have n6_ := t_addD (a := (24 : Int32)) (b := (qI U50 16 5))
                have n7_ := rgI ((24 : Int32) + (qI U50 16 5))
                have n8_ := rgI v50_3
                have n9_ := t_addD (a := v50_2) (b := v50_4)
                have n10_ := rgI (v50_2 + v50_4)
                have n11_ := rgI (fX1_join U50 (qI U50 (qO U50 16 1) (((v50_2 + v50_4).toInt).toNat)) (qI U50 24 v50_4.toInt.toNat))
                have n12_ := rgI (qI U50 (qO U50 16 1) (((v50_2 + v50_4).toInt).toNat))
                have n13_ := rgI a21_66
                have n15_ := lo_1k
                have n15_ := t_addD (a := v50_4) (b := Int32.ofInt 1)
                have n16_ := rgI (v50_4 + Int32.ofInt 1)
                omega
              · have s77_ := (g.row (y11_.ref h0_ (y11_.2.1 _ finC_27).2.1)).2
                have s78_ := y11_.len9 (y11_.ref (y11_.ptr ptrC_4) (y11_.2.1 _ finC_27).2.1) (by decide)
                have s79_ := y11_.len9 (y11_.ref (y11_.ptr ptrC_5) (y11_.2.1 _ finC_27).2.1) (by decide)
                have s80_ := y11_.len9 (y11_.ref (y11_.ptr ptrC_6) (y11_.2.1 _ finC_27).2.1) (by decide)
                have s81_ := g.chk
                unfold ChKk at s81_
                have n1_ := rgI v50_1
                have n2_ := rgI v50_4
                have n3_ := rgI v50_2
                have n5_ := li_24k
                have n6_ := rgI (qI U50 16 5)
                have n6_ := t_addD (a := (24 : Int32)) (b := (qI U50 16 5))
                have n7_ := rgI ((24 : Int32) + (qI U50 16 5))
                have n8_ := rgI v50_3
                have n9_ := t_addD (a := v50_2) (b := v50_4)
                have n10_ := rgI (v50_2 + v50_4)
                have n11_ := rgI (fX1_join U50 (qI U50 (qO U50 16 1) (((v50_2 + v50_4).toInt).toNat)) (qI U50 24 v50_4.toInt.toNat))
                have n12_ := rgI (qI U50 (qO U50 16 1) (((v50_2 + v50_4).toInt).toNat))
                have n13_ := rgI a21_66
                have n15_ := lo_1k
                have n15_ := t_addD (a := v50_4) (b := Int32.ofInt 1)
                have n16_ := rgI (v50_4 + Int32.ofInt 1)
                omega
              · have s82_ := (g.row (y11_.ref h0_ (y11_.2.1 _ finC_27).2.1)).2
                have s83_ := y11_.len9 (y11_.ref (y11_.ptr ptrC_4) (y11_.2.1 _ finC_27).2.1) (by decide)
                have s84_ := y11_.len9 (y11_.ref (y11_.ptr ptrC_5) (y11_.2.1 _ finC_27).2.1) (by decide)
                have s85_ := y11_.len9 (y11_.ref (y11_.ptr ptrC_6) (y11_.2.1 _ finC_27).2.1) (by decide)
                have s86_ := g.chk
                unfold ChKk at s86_
                have n1_ := rgI v50_2
                have n2_ := rgI v50_1
                have n3_ := rgI v50_4
                have n5_ := li_24k
                have n6_ := rgI (qI U50 16 5)
                have n6_ := t_addD (a := (24 : Int32)) (b := (qI U50 16 5))
                have n7_ := rgI ((24 : Int32) + (qI U50 16 5))
                have n8_ := rgI v50_3
                have n9_ := t_addD (a := v50_2) (b := v50_4)
                have n10_ := rgI (v50_2 + v50_4)
                have n11_ := rgI (fX1_join U50 (qI U50 (qO U50 16 1) (((v50_2 + v50_4).toInt).toNat)) (qI U50 24 v50_4.toInt.toNat))
                have n12_ := rgI (qI U50 (qO U50 16 1) (((v50_2 + v50_4).toInt).toNat))
                have n13_ := rgI a21_66
                have n15_ := lo_1k
                have n15_ := t_addD (a := v50_4) (b := Int32.ofInt 1)
                have n16_ := rgI (v50_4 + Int32.ofInt 1)
                omega
              · have s87_ := (g.row (y11_.ref h0_ (y11_.2.1 _ finC_27).2.1)).2
                have s88_ := y11_.len9 (y11_.ref (y11_.ptr ptrC_4) (y11_.2.1 _ finC_27).2.1) (by decide)
                have s89_ := y11_.len9 (y11_.ref (y11_.ptr ptrC_5) (y11_.2.1 _ finC_27).2.1) (by decide)
                have s90_ := y11_.len9 (y11_.ref (y11_.ptr ptrC_6) (y11_.2.1 _ finC_27).2.1) (by decide)
                have s91_ := g.chk
                unfold ChKk at s91_
                have n1_ := rgI a21_66
                have n2_ := rgI v50_4
                have n3_ := rgI v50_1
                have n4_ := rgI v50_2
                have n6_ := li_24k
                have n7_ := rgI (qI U50 16 5)
                have n7_ := t_addD (a := (24 : Int32)) (b := (qI U50 16 5))
                have n8_ := rgI ((24 : Int32) + (qI U50 16 5))
                have n9_ := rgI v50_3
                have n10_ := t_addD (a := v50_2) (b := v50_4)
                have n11_ := rgI (v50_2 + v50_4)
                have n12_ := rgI (fX1_join U50 (qI U50 (qO U50 16 1) (((v50_2 + v50_4).toInt).toNat)) (qI U50 24 v50_4.toInt.toNat))
                have n13_ := rgI (qI U50 (qO U50 16 1) (((v50_2 + v50_4).toInt).toNat))
                have n15_ := lo_1k
                have n15_ := t_addD (a := v50_4) (b := Int32.ofInt 1)
                have n16_ := rgI (v50_4 + Int32.ofInt 1)
                omega
            · unfold w_X1_comeTo_J122
              intro y13_ y14_
              refine ⟨?_, ?_⟩
              · have s92_ := (g.row (y13_.ref h0_ (y13_.2.1 _ finC_27).2.1)).2
                have s93_ := y13_.len9 (y13_.ref (y13_.ptr ptrC_4) (y13_.2.1 _ finC_27).2.1) (by decide)
                have s94_ := y13_.len9 (y13_.ref (y13_.ptr ptrC_5) (y13_.2.1 _ finC_27).2.1) (by decide)
                have s95_ := y13_.len9 (y13_.ref (y13_.ptr ptrC_6) (y13_.2.1 _ finC_27).2.1) (by decide)
                have s96_ := g.chk
                unfold ChKk at s96_
                have n2_ := rgI v50_2
                have n3_ := rgI v50_4
                have n3_ := t_addD (a := v50_2) (b := v50_4)
                have n4_ := rgI (v50_2 + v50_4)
                have n5_ := rgI v50_1
                have n7_ := li_24k
                have n8_ := rgI (qI U50 16 5)
                have n8_ := t_addD (a := (24 : Int32)) (b := (qI U50 16 5))
                have n9_ := rgI ((24 : Int32) + (qI U50 16 5))
                have n10_ := rgI v50_3
                have n11_ := rgI (fX1_join U50 (qI U50 (qO U50 16 1) (((v50_2 + v50_4).toInt).toNat)) (qI U50 24 v50_4.toInt.toNat))
                have n12_ := rgI (qI U50 (qO U50 16 1) (((v50_2 + v50_4).toInt).toNat))
                omega
              intro S25_97 eS25_97 y15_ y16_
              have f98_ : cfr [102] [] U50 S25_97 := by rw [eS25_97]; exact cfr.aI y15_ (by decide)
              have o99_ : qO S25_97 16 9 = qO U50 16 9 := qO_eq (f98_.kO (y13_.2.1 _ finC_27).2.1 (by decide) (by decide))
              have t100_ : (qI S25_97 (qO S25_97 16 9) 4).toInt = (qI U50 (qO U50 16 9) 4).toInt := by rw [o99_]; exact congrArg Int32.toInt (f98_.kI (j := 4) (y13_.ref h0_ (y13_.2.1 _ finC_27).2.1) (by decide) (by decide))
              have t101_ : (qI S25_97 (qO S25_97 16 9) 2).toInt = (qI U50 (qO U50 16 9) 2).toInt := by rw [o99_]; exact congrArg Int32.toInt (f98_.kI (j := 2) (y13_.ref h0_ (y13_.2.1 _ finC_27).2.1) (by decide) (by decide))
              have t102_ : (qI S25_97 (qO S25_97 16 9) 9).toInt = (qI U50 (qO U50 16 9) 9).toInt := by rw [o99_]; exact congrArg Int32.toInt (f98_.kI (j := 9) (y13_.ref h0_ (y13_.2.1 _ finC_27).2.1) (by decide) (by decide))
              have t103_ : (qN S25_97 (qO S25_97 (qO S25_97 16 9) 1) : Int) = (qN U50 (qO U50 (qO U50 16 9) 1) : Int) := by rw [o99_]; exact f98_.kL (j := 1) y13_ (y13_.ref h0_ (y13_.2.1 _ finC_27).2.1) (g.row (y13_.ref h0_ (y13_.2.1 _ finC_27).2.1)).1.2.1 (by decide) (by decide)
              have t104_ : (qN S25_97 (qO S25_97 (qO S25_97 16 9) 8) : Int) = (qN U50 (qO U50 (qO U50 16 9) 8) : Int) := by rw [o99_]; exact f98_.kL (j := 8) y13_ (y13_.ref h0_ (y13_.2.1 _ finC_27).2.1) (g.row (y13_.ref h0_ (y13_.2.1 _ finC_27).2.1)).1.2.2.2.2.2.2 (by decide) (by decide)
              have t105_ : (qN S25_97 (qO S25_97 (qO S25_97 16 9) 7) : Int) = (qN U50 (qO U50 (qO U50 16 9) 7) : Int) := by rw [o99_]; exact f98_.kL (j := 7) y13_ (y13_.ref h0_ (y13_.2.1 _ finC_27).2.1) (g.row (y13_.ref h0_ (y13_.2.1 _ finC_27).2.1)).1.2.2.2.2.2.1 (by decide) (by decide)
              have t106_ : (qN S25_97 (qO S25_97 (qO S25_97 16 9) 0) : Int) = (qN U50 (qO U50 (qO U50 16 9) 0) : Int) := by rw [o99_]; exact f98_.kL (j := 0) y13_ (y13_.ref h0_ (y13_.2.1 _ finC_27).2.1) (g.row (y13_.ref h0_ (y13_.2.1 _ finC_27).2.1)).1.1 (by decide) (by decide)
              have t107_ : (qN S25_97 (qO S25_97 (qO S25_97 16 9) 6) : Int) = (qN U50 (qO U50 (qO U50 16 9) 6) : Int) := by rw [o99_]; exact f98_.kL (j := 6) y13_ (y13_.ref h0_ (y13_.2.1 _ finC_27).2.1) (g.row (y13_.ref h0_ (y13_.2.1 _ finC_27).2.1)).1.2.2.2.2.1 (by decide) (by decide)
              have t108_ : (qN S25_97 (qO S25_97 (qO S25_97 16 9) 3) : Int) = (qN U50 (qO U50 (qO U50 16 9) 3) : Int) := by rw [o99_]; exact f98_.kL (j := 3) y13_ (y13_.ref h0_ (y13_.2.1 _ finC_27).2.1) (g.row (y13_.ref h0_ (y13_.2.1 _ finC_27).2.1)).1.2.2.1 (by decide) (by decide)
              have t109_ : (qN S25_97 (qO S25_97 (qO S25_97 16 9) 5) : Int) = (qN U50 (qO U50 (qO U50 16 9) 5) : Int) := by rw [o99_]; exact f98_.kL (j := 5) y13_ (y13_.ref h0_ (y13_.2.1 _ finC_27).2.1) (g.row (y13_.ref h0_ (y13_.2.1 _ finC_27).2.1)).1.2.2.2.1 (by decide) (by decide)
              have t110_ : (qI S25_97 16 5).toInt = (qI U50 16 5).toInt := congrArg Int32.toInt (f98_.kI (j := 5) (y13_.2.1 _ finC_27).2.1 (by decide) (by decide))
              have t111_ : (qN S25_97 (qO S25_97 16 1) : Int) = (qN U50 (qO U50 16 1) : Int) := f98_.kL (j := 1) y13_ (y13_.2.1 _ finC_27).2.1 (y13_.ptr ptrC_4) (by decide) (by decide)
              have t112_ : (qN S25_97 (qO S25_97 16 3) : Int) = (qN U50 (qO U50 16 3) : Int) := f98_.kL (j := 3) y13_ (y13_.2.1 _ finC_27).2.1 (y13_.ptr ptrC_6) (by decide) (by decide)
              have t113_ : (qN S25_97 (qO S25_97 16 2) : Int) = (qN U50 (qO U50 16 2) : Int) := f98_.kL (j := 2) y13_ (y13_.2.1 _ finC_27).2.1 (y13_.ptr ptrC_5) (by decide) (by decide)
              have p114_ : qR S25_97 16 9 = some (qO S25_97 16 9) := f98_.kP (y13_.2.1 _ finC_27).2.1 h0_ (by decide) (by decide)
              have g : ShC B S25_97 := ShC.ws y13_ g f98_ (by rw [eS25_97]; rfl) (by rw [eS25_97]; rfl) (by rw [eS25_97]; rfl) rfl rfl
              refine ⟨?_, ?_⟩
              · have s115_ := (g.row (y16_.ref p114_ (y16_.2.1 _ finC_27).2.1)).2
                have s116_ := y16_.len9 (y16_.ref (y16_.ptr ptrC_4) (y16_.2.1 _ finC_27).2.1) (by decide)
                have s117_ := y16_.len9 (y16_.ref (y16_.ptr ptrC_5) (y16_.2.1 _ finC_27).2.1) (by decide)
                have s118_ := y16_.len9 (y16_.ref (y16_.ptr ptrC_6) (y16_.2.1 _ finC_27).2.1) (by decide)
                have s119_ := g.chk
                unfold ChKk at s119_
                have n1_ := rgI v50_1
                have n2_ := rgI v50_4
                have n3_ := rgI v50_2
                have n5_ := li_24k
                have n6_ := rgI (qI U50 16 5)
                have n6_ := t_addD (a := (24 : Int32)) (b := (qI U50 16 5))
                have n7_ := rgI ((24 : Int32) + (qI U50 16 5))
                have n8_ := rgI v50_3
                have n9_ := t_addD (a := v50_2) (b := v50_4)
                have n10_ := rgI (v50_2 + v50_4)
                have n11_ := rgI (fX1_join U50 (qI U50 (qO U50 16 1) (((v50_2 + v50_4).toInt).toNat)) (qI U50 24 v50_4.toInt.toNat))
                have n12_ := rgI (qI U50 (qO U50 16 1) (((v50_2 + v50_4).toInt).toNat))
                omega
              intro S28_120 eS28_120 y17_ y18_
              have f121_ : cfr [302] [] S25_97 S28_120 := by rw [eS28_120]; exact cfr.aI y17_ (by decide)
              have o122_ : qO S28_120 16 9 = qO S25_97 16 9 := qO_eq (f121_.kO (y16_.2.1 _ finC_27).2.1 (by decide) (by decide))
              have t123_ : (qI S28_120 (qO S28_120 16 9) 4).toInt = (qI S25_97 (qO S25_97 16 9) 4).toInt := by rw [o122_]; exact congrArg Int32.toInt (f121_.kI (j := 4) (y16_.ref p114_ (y16_.2.1 _ finC_27).2.1) (by decide) (by decide))
              have t124_ : (qI S28_120 (qO S28_120 16 9) 2).toInt = (qI S25_97 (qO S25_97 16 9) 2).toInt := by rw [o122_]; exact congrArg Int32.toInt (f121_.kI (j := 2) (y16_.ref p114_ (y16_.2.1 _ finC_27).2.1) (by decide) (by decide))
              have t125_ : (qI S28_120 (qO S28_120 16 9) 9).toInt = (qI S25_97 (qO S25_97 16 9) 9).toInt := by rw [o122_]; exact congrArg Int32.toInt (f121_.kI (j := 9) (y16_.ref p114_ (y16_.2.1 _ finC_27).2.1) (by decide) (by decide))
              have t126_ : (qN S28_120 (qO S28_120 (qO S28_120 16 9) 1) : Int) = (qN S25_97 (qO S25_97 (qO S25_97 16 9) 1) : Int) := by rw [o122_]; exact f121_.kL (j := 1) y16_ (y16_.ref p114_ (y16_.2.1 _ finC_27).2.1) (g.row (y16_.ref p114_ (y16_.2.1 _ finC_27).2.1)).1.2.1 (by decide) (by decide)
              have t127_ : (qN S28_120 (qO S28_120 (qO S28_120 16 9) 8) : Int) = (qN S25_97 (qO S25_97 (qO S25_97 16 9) 8) : Int) := by rw [o122_]; exact f121_.kL (j := 8) y16_ (y16_.ref p114_ (y16_.2.1 _ finC_27).2.1) (g.row (y16_.ref p114_ (y16_.2.1 _ finC_27).2.1)).1.2.2.2.2.2.2 (by decide) (by decide)
              have t128_ : (qN S28_120 (qO S28_120 (qO S28_120 16 9) 7) : Int) = (qN S25_97 (qO S25_97 (qO S25_97 16 9) 7) : Int) := by rw [o122_]; exact f121_.kL (j := 7) y16_ (y16_.ref p114_ (y16_.2.1 _ finC_27).2.1) (g.row (y16_.ref p114_ (y16_.2.1 _ finC_27).2.1)).1.2.2.2.2.2.1 (by decide) (by decide)
              have t129_ : (qN S28_120 (qO S28_120 (qO S28_120 16 9) 0) : Int) = (qN S25_97 (qO S25_97 (qO S25_97 16 9) 0) : Int) := by rw [o122_]; exact f121_.kL (j := 0) y16_ (y16_.ref p114_ (y16_.2.1 _ finC_27).2.1) (g.row (y16_.ref p114_ (y16_.2.1 _ finC_27).2.1)).1.1 (by decide) (by decide)
              have t130_ : (qN S28_120 (qO S28_120 (qO S28_120 16 9) 6) : Int) = (qN S25_97 (qO S25_97 (qO S25_97 16 9) 6) : Int) := by rw [o122_]; exact f121_.kL (j := 6) y16_ (y16_.ref p114_ (y16_.2.1 _ finC_27).2.1) (g.row (y16_.ref p114_ (y16_.2.1 _ finC_27).2.1)).1.2.2.2.2.1 (by decide) (by decide)
              have t131_ : (qN S28_120 (qO S28_120 (qO S28_120 16 9) 3) : Int) = (qN S25_97 (qO S25_97 (qO S25_97 16 9) 3) : Int) := by rw [o122_]; exact f121_.kL (j := 3) y16_ (y16_.ref p114_ (y16_.2.1 _ finC_27).2.1) (g.row (y16_.ref p114_ (y16_.2.1 _ finC_27).2.1)).1.2.2.1 (by decide) (by decide)
              have t132_ : (qN S28_120 (qO S28_120 (qO S28_120 16 9) 5) : Int) = (qN S25_97 (qO S25_97 (qO S25_97 16 9) 5) : Int) := by rw [o122_]; exact f121_.kL (j := 5) y16_ (y16_.ref p114_ (y16_.2.1 _ finC_27).2.1) (g.row (y16_.ref p114_ (y16_.2.1 _ finC_27).2.1)).1.2.2.2.1 (by decide) (by decide)
              have t133_ : (qI S28_120 16 5).toInt = (qI S25_97 16 5).toInt := congrArg Int32.toInt (f121_.kI (j := 5) (y16_.2.1 _ finC_27).2.1 (by decide) (by decide))
              have t134_ : (qN S28_120 (qO S28_120 16 1) : Int) = (qN S25_97 (qO S25_97 16 1) : Int) := f121_.kL (j := 1) y16_ (y16_.2.1 _ finC_27).2.1 (y16_.ptr ptrC_4) (by decide) (by decide)
              have t135_ : (qN S28_120 (qO S28_120 16 3) : Int) = (qN S25_97 (qO S25_97 16 3) : Int) := f121_.kL (j := 3) y16_ (y16_.2.1 _ finC_27).2.1 (y16_.ptr ptrC_6) (by decide) (by decide)
              have t136_ : (qN S28_120 (qO S28_120 16 2) : Int) = (qN S25_97 (qO S25_97 16 2) : Int) := f121_.kL (j := 2) y16_ (y16_.2.1 _ finC_27).2.1 (y16_.ptr ptrC_5) (by decide) (by decide)
              have p137_ : qR S28_120 16 9 = some (qO S28_120 16 9) := f121_.kP (y16_.2.1 _ finC_27).2.1 p114_ (by decide) (by decide)
              have g : ShC B S28_120 := ShC.ws y16_ g f121_ (by rw [eS28_120]; rfl) (by rw [eS28_120]; rfl) (by rw [eS28_120]; rfl) rfl rfl
              intro S29_138 eS29_138 y19_ y20_
              have f139_ : cfr [] [(41, 7)] S28_120 S29_138 := by rw [eS29_138]; exact cfr.oI y19_ (by decide)
              have o140_ : qO S29_138 16 9 = qO S28_120 16 9 := qO_eq (f139_.kO (y18_.2.1 _ finC_27).2.1 (by decide) (by decide))
              have t141_ : (qI S29_138 (qO S29_138 16 9) 4).toInt = (qI S28_120 (qO S28_120 16 9) 4).toInt := by rw [o140_]; exact congrArg Int32.toInt (f139_.kI (j := 4) (y18_.ref p137_ (y18_.2.1 _ finC_27).2.1) (by decide) (by decide))
              have t142_ : (qI S29_138 (qO S29_138 16 9) 2).toInt = (qI S28_120 (qO S28_120 16 9) 2).toInt := by rw [o140_]; exact congrArg Int32.toInt (f139_.kI (j := 2) (y18_.ref p137_ (y18_.2.1 _ finC_27).2.1) (by decide) (by decide))
              have t143_ : (qI S29_138 (qO S29_138 16 9) 9).toInt = (qI S28_120 (qO S28_120 16 9) 9).toInt := by rw [o140_]; exact congrArg Int32.toInt (f139_.kI (j := 9) (y18_.ref p137_ (y18_.2.1 _ finC_27).2.1) (by decide) (by decide))
              have t144_ : (qN S29_138 (qO S29_138 (qO S29_138 16 9) 1) : Int) = (qN S28_120 (qO S28_120 (qO S28_120 16 9) 1) : Int) := by rw [o140_]; exact f139_.kL (j := 1) y18_ (y18_.ref p137_ (y18_.2.1 _ finC_27).2.1) (g.row (y18_.ref p137_ (y18_.2.1 _ finC_27).2.1)).1.2.1 (by decide) (by decide)
              have t145_ : (qN S29_138 (qO S29_138 (qO S29_138 16 9) 8) : Int) = (qN S28_120 (qO S28_120 (qO S28_120 16 9) 8) : Int) := by rw [o140_]; exact f139_.kL (j := 8) y18_ (y18_.ref p137_ (y18_.2.1 _ finC_27).2.1) (g.row (y18_.ref p137_ (y18_.2.1 _ finC_27).2.1)).1.2.2.2.2.2.2 (by decide) (by decide)
              have t146_ : (qN S29_138 (qO S29_138 (qO S29_138 16 9) 7) : Int) = (qN S28_120 (qO S28_120 (qO S28_120 16 9) 7) : Int) := by rw [o140_]; exact f139_.kL (j := 7) y18_ (y18_.ref p137_ (y18_.2.1 _ finC_27).2.1) (g.row (y18_.ref p137_ (y18_.2.1 _ finC_27).2.1)).1.2.2.2.2.2.1 (by decide) (by decide)
              have t147_ : (qN S29_138 (qO S29_138 (qO S29_138 16 9) 0) : Int) = (qN S28_120 (qO S28_120 (qO S28_120 16 9) 0) : Int) := by rw [o140_]; exact f139_.kL (j := 0) y18_ (y18_.ref p137_ (y18_.2.1 _ finC_27).2.1) (g.row (y18_.ref p137_ (y18_.2.1 _ finC_27).2.1)).1.1 (by decide) (by decide)
              have t148_ : (qN S29_138 (qO S29_138 (qO S29_138 16 9) 6) : Int) = (qN S28_120 (qO S28_120 (qO S28_120 16 9) 6) : Int) := by rw [o140_]; exact f139_.kL (j := 6) y18_ (y18_.ref p137_ (y18_.2.1 _ finC_27).2.1) (g.row (y18_.ref p137_ (y18_.2.1 _ finC_27).2.1)).1.2.2.2.2.1 (by decide) (by decide)
              have t149_ : (qN S29_138 (qO S29_138 (qO S29_138 16 9) 3) : Int) = (qN S28_120 (qO S28_120 (qO S28_120 16 9) 3) : Int) := by rw [o140_]; exact f139_.kL (j := 3) y18_ (y18_.ref p137_ (y18_.2.1 _ finC_27).2.1) (g.row (y18_.ref p137_ (y18_.2.1 _ finC_27).2.1)).1.2.2.1 (by decide) (by decide)
              have t150_ : (qN S29_138 (qO S29_138 (qO S29_138 16 9) 5) : Int) = (qN S28_120 (qO S28_120 (qO S28_120 16 9) 5) : Int) := by rw [o140_]; exact f139_.kL (j := 5) y18_ (y18_.ref p137_ (y18_.2.1 _ finC_27).2.1) (g.row (y18_.ref p137_ (y18_.2.1 _ finC_27).2.1)).1.2.2.2.1 (by decide) (by decide)
              have t151_ : (qI S29_138 16 5).toInt = (qI S28_120 16 5).toInt := congrArg Int32.toInt (f139_.kI (j := 5) (y18_.2.1 _ finC_27).2.1 (by decide) (by decide))
              have t152_ : (qN S29_138 (qO S29_138 16 1) : Int) = (qN S28_120 (qO S28_120 16 1) : Int) := f139_.kL (j := 1) y18_ (y18_.2.1 _ finC_27).2.1 (y18_.ptr ptrC_4) (by decide) (by decide)
              have t153_ : (qN S29_138 (qO S29_138 16 3) : Int) = (qN S28_120 (qO S28_120 16 3) : Int) := f139_.kL (j := 3) y18_ (y18_.2.1 _ finC_27).2.1 (y18_.ptr ptrC_6) (by decide) (by decide)
              have t154_ : (qN S29_138 (qO S29_138 16 2) : Int) = (qN S28_120 (qO S28_120 16 2) : Int) := f139_.kL (j := 2) y18_ (y18_.2.1 _ finC_27).2.1 (y18_.ptr ptrC_5) (by decide) (by decide)
              have p155_ : qR S29_138 16 9 = some (qO S29_138 16 9) := f139_.kP (y18_.2.1 _ finC_27).2.1 p137_ (by decide) (by decide)
              have t156_ : (qI S29_138 16 7).toInt = (1 : Int32).toInt := by rw [eS29_138, qI_wI, if_pos ⟨rfl, rfl⟩]
              have g : ShC B S29_138 := ShC.ws y18_ g f139_ (by rw [eS29_138]; rfl) (by rw [eS29_138]; rfl) (by rw [eS29_138]; rfl) rfl rfl
              unfold w_X1_comeTo_J146
              intro y21_ y22_
              intro a21_157 ea21_157 
              have ga21_157 := congrArg Int32.toInt ea21_157
              refine ih50 g p155_ ?_ ?_ ?_ ?_ ?_
              · have s158_ := (g.row (y21_.ref p155_ (y21_.2.1 _ finC_27).2.1)).2
                have s159_ := y21_.len9 (y21_.ref (y21_.ptr ptrC_4) (y21_.2.1 _ finC_27).2.1) (by decide)
                have s160_ := y21_.len9 (y21_.ref (y21_.ptr ptrC_5) (y21_.2.1 _ finC_27).2.1) (by decide)
                have s161_ := y21_.len9 (y21_.ref (y21_.ptr ptrC_6) (y21_.2.1 _ finC_27).2.1) (by decide)
                have s162_ := g.chk
                unfold ChKk at s162_
                have n1_ := rgI a21_157
                have n2_ := rgI v50_4
                have n3_ := rgI v50_1
                have n4_ := rgI v50_2
                have n6_ := li_24k
                have n7_ := rgI (qI U50 16 5)
                have n7_ := t_addD (a := (24 : Int32)) (b := (qI U50 16 5))
                have n8_ := rgI ((24 : Int32) + (qI U50 16 5))
                have n9_ := rgI v50_3
                have n10_ := t_addD (a := v50_2) (b := v50_4)
                have n11_ := rgI (v50_2 + v50_4)
                have n12_ := rgI (fX1_join U50 (qI U50 (qO U50 16 1) (((v50_2 + v50_4).toInt).toNat)) (qI U50 24 v50_4.toInt.toNat))
                have n13_ := rgI (qI U50 (qO U50 16 1) (((v50_2 + v50_4).toInt).toNat))
                have n14_ := rgI (qI S29_138 16 7)
                have n15_ := li_1k
                have n17_ := lo_1k
                have n17_ := t_addD (a := v50_4) (b := Int32.ofInt 1)
                have n18_ := rgI (v50_4 + Int32.ofInt 1)
                omega
              · have s163_ := (g.row (y21_.ref p155_ (y21_.2.1 _ finC_27).2.1)).2
                have s164_ := y21_.len9 (y21_.ref (y21_.ptr ptrC_4) (y21_.2.1 _ finC_27).2.1) (by decide)
                have s165_ := y21_.len9 (y21_.ref (y21_.ptr ptrC_5) (y21_.2.1 _ finC_27).2.1) (by decide)
                have s166_ := y21_.len9 (y21_.ref (y21_.ptr ptrC_6) (y21_.2.1 _ finC_27).2.1) (by decide)
                have s167_ := g.chk
                unfold ChKk at s167_
                have n1_ := rgI v50_1
                have n2_ := rgI v50_4
                have n3_ := rgI v50_2
                have n5_ := li_24k
                have n6_ := rgI (qI U50 16 5)
                have n6_ := t_addD (a := (24 : Int32)) (b := (qI U50 16 5))
                have n7_ := rgI ((24 : Int32) + (qI U50 16 5))
                have n8_ := rgI v50_3
                have n9_ := t_addD (a := v50_2) (b := v50_4)
                have n10_ := rgI (v50_2 + v50_4)
                have n11_ := rgI (fX1_join U50 (qI U50 (qO U50 16 1) (((v50_2 + v50_4).toInt).toNat)) (qI U50 24 v50_4.toInt.toNat))
                have n12_ := rgI (qI U50 (qO U50 16 1) (((v50_2 + v50_4).toInt).toNat))
                have n13_ := rgI (qI S29_138 16 7)
                have n14_ := li_1k
                have n15_ := rgI a21_157
                have n17_ := lo_1k
                have n17_ := t_addD (a := v50_4) (b := Int32.ofInt 1)
                have n18_ := rgI (v50_4 + Int32.ofInt 1)
                omega
              · have s168_ := (g.row (y21_.ref p155_ (y21_.2.1 _ finC_27).2.1)).2
                have s169_ := y21_.len9 (y21_.ref (y21_.ptr ptrC_4) (y21_.2.1 _ finC_27).2.1) (by decide)
                have s170_ := y21_.len9 (y21_.ref (y21_.ptr ptrC_5) (y21_.2.1 _ finC_27).2.1) (by decide)
                have s171_ := y21_.len9 (y21_.ref (y21_.ptr ptrC_6) (y21_.2.1 _ finC_27).2.1) (by decide)
                have s172_ := g.chk
                unfold ChKk at s172_
                have n1_ := rgI v50_1
                have n2_ := rgI v50_4
                have n3_ := rgI v50_2
                have n5_ := li_24k
                have n6_ := rgI (qI U50 16 5)
                have n6_ := t_addD (a := (24 : Int32)) (b := (qI U50 16 5))
                have n7_ := rgI ((24 : Int32) + (qI U50 16 5))
                have n8_ := rgI v50_3
                have n9_ := t_addD (a := v50_2) (b := v50_4)
                have n10_ := rgI (v50_2 + v50_4)
                have n11_ := rgI (fX1_join U50 (qI U50 (qO U50 16 1) (((v50_2 + v50_4).toInt).toNat)) (qI U50 24 v50_4.toInt.toNat))
                have n12_ := rgI (qI U50 (qO U50 16 1) (((v50_2 + v50_4).toInt).toNat))
                have n13_ := rgI (qI S29_138 16 7)
                have n14_ := li_1k
                have n15_ := rgI a21_157
                have n17_ := lo_1k
                have n17_ := t_addD (a := v50_4) (b := Int32.ofInt 1)
                have n18_ := rgI (v50_4 + Int32.ofInt 1)
                omega
              · have s173_ := (g.row (y21_.ref p155_ (y21_.2.1 _ finC_27).2.1)).2
                have s174_ := y21_.len9 (y21_.ref (y21_.ptr ptrC_4) (y21_.2.1 _ finC_27).2.1) (by decide)
                have s175_ := y21_.len9 (y21_.ref (y21_.ptr ptrC_5) (y21_.2.1 _ finC_27).2.1) (by decide)
                have s176_ := y21_.len9 (y21_.ref (y21_.ptr ptrC_6) (y21_.2.1 _ finC_27).2.1) (by decide)
                have s177_ := g.chk
                unfold ChKk at s177_
                have n1_ := rgI v50_2
                have n2_ := rgI v50_1
                have n3_ := rgI v50_4
                have n5_ := li_24k
                have n6_ := rgI (qI U50 16 5)
                have n6_ := t_addD (a := (24 : Int32)) (b := (qI U50 16 5))
                have n7_ := rgI ((24 : Int32) + (qI U50 16 5))
                have n8_ := rgI v50_3
                have n9_ := t_addD (a := v50_2) (b := v50_4)
                have n10_ := rgI (v50_2 + v50_4)
                have n11_ := rgI (fX1_join U50 (qI U50 (qO U50 16 1) (((v50_2 + v50_4).toInt).toNat)) (qI U50 24 v50_4.toInt.toNat))
                have n12_ := rgI (qI U50 (qO U50 16 1) (((v50_2 + v50_4).toInt).toNat))
                have n13_ := rgI (qI S29_138 16 7)
                have n14_ := li_1k
                have n15_ := rgI a21_157
                have n17_ := lo_1k
                have n17_ := t_addD (a := v50_4) (b := Int32.ofInt 1)
                have n18_ := rgI (v50_4 + Int32.ofInt 1)
                omega
              · have s178_ := (g.row (y21_.ref p155_ (y21_.2.1 _ finC_27).2.1)).2
                have s179_ := y21_.len9 (y21_.ref (y21_.ptr ptrC_4) (y21_.2.1 _ finC_27).2.1) (by decide)
                have s180_ := y21_.len9 (y21_.ref (y21_.ptr ptrC_5) (y21_.2.1 _ finC_27).2.1) (by decide)
                have s181_ := y21_.len9 (y21_.ref (y21_.ptr ptrC_6) (y21_.2.1 _ finC_27).2.1) (by decide)
                have s182_ := g.chk
                unfold ChKk at s182_
                have n1_ := rgI a21_157
                have n2_ := rgI v50_4
                have n3_ := rgI v50_1
                have n4_ := rgI v50_2
                have n6_ := li_24k
                have n7_ := rgI (qI U50 16 5)
                have n7_ := t_addD (a := (24 : Int32)) (b := (qI U50 16 5))
                have n8_ := rgI ((24 : Int32) + (qI U50 16 5))
                have n9_ := rgI v50_3
                have n10_ := t_addD (a := v50_2) (b := v50_4)
                have n11_ := rgI (v50_2 + v50_4)
                have n12_ := rgI (fX1_join U50 (qI U50 (qO U50 16 1) (((v50_2 + v50_4).toInt).toNat)) (qI U50 24 v50_4.toInt.toNat))
                have n13_ := rgI (qI U50 (qO U50 16 1) (((v50_2 + v50_4).toInt).toNat))
                have n14_ := rgI (qI S29_138 16 7)
                have n15_ := li_1k
                have n17_ := lo_1k
                have n17_ := t_addD (a := v50_4) (b := Int32.ofInt 1)
                have n18_ := rgI (v50_4 + Int32.ofInt 1)
                omega
          · unfold w_X1_comeTo_J122
            intro y23_ y24_
            refine ⟨?_, ?_⟩
            · have s183_ := (g.row (y23_.ref h0_ (y23_.2.1 _ finC_27).2.1)).2
              have s184_ := y23_.len9 (y23_.ref (y23_.ptr ptrC_4) (y23_.2.1 _ finC_27).2.1) (by decide)
              have s185_ := y23_.len9 (y23_.ref (y23_.ptr ptrC_5) (y23_.2.1 _ finC_27).2.1) (by decide)
              have s186_ := y23_.len9 (y23_.ref (y23_.ptr ptrC_6) (y23_.2.1 _ finC_27).2.1) (by decide)
              have s187_ := g.chk
              unfold ChKk at s187_
              have n2_ := rgI v50_2
              have n3_ := rgI v50_4
              have n3_ := t_addD (a := v50_2) (b := v50_4)
              have n4_ := rgI (v50_2 + v50_4)
              have n5_ := rgI v50_1
              have n7_ := li_24k
              have n8_ := rgI (qI U50 16 5)
              have n8_ := t_addD (a := (24 : Int32)) (b := (qI U50 16 5))
              have n9_ := rgI ((24 : Int32) + (qI U50 16 5))
              have n10_ := rgI v50_3
              omega
            intro S25_188 eS25_188 y25_ y26_
            have f189_ : cfr [102] [] U50 S25_188 := by rw [eS25_188]; exact cfr.aI y25_ (by decide)
            have o190_ : qO S25_188 16 9 = qO U50 16 9 := qO_eq (f189_.kO (y23_.2.1 _ finC_27).2.1 (by decide) (by decide))
            have t191_ : (qI S25_188 (qO S25_188 16 9) 4).toInt = (qI U50 (qO U50 16 9) 4).toInt := by rw [o190_]; exact congrArg Int32.toInt (f189_.kI (j := 4) (y23_.ref h0_ (y23_.2.1 _ finC_27).2.1) (by decide) (by decide))
            have t192_ : (qI S25_188 (qO S25_188 16 9) 2).toInt = (qI U50 (qO U50 16 9) 2).toInt := by rw [o190_]; exact congrArg Int32.toInt (f189_.kI (j := 2) (y23_.ref h0_ (y23_.2.1 _ finC_27).2.1) (by decide) (by decide))
            have t193_ : (qI S25_188 (qO S25_188 16 9) 9).toInt = (qI U50 (qO U50 16 9) 9).toInt := by rw [o190_]; exact congrArg Int32.toInt (f189_.kI (j := 9) (y23_.ref h0_ (y23_.2.1 _ finC_27).2.1) (by decide) (by decide))
            have t194_ : (qN S25_188 (qO S25_188 (qO S25_188 16 9) 1) : Int) = (qN U50 (qO U50 (qO U50 16 9) 1) : Int) := by rw [o190_]; exact f189_.kL (j := 1) y23_ (y23_.ref h0_ (y23_.2.1 _ finC_27).2.1) (g.row (y23_.ref h0_ (y23_.2.1 _ finC_27).2.1)).1.2.1 (by decide) (by decide)
            have t195_ : (qN S25_188 (qO S25_188 (qO S25_188 16 9) 8) : Int) = (qN U50 (qO U50 (qO U50 16 9) 8) : Int) := by rw [o190_]; exact f189_.kL (j := 8) y23_ (y23_.ref h0_ (y23_.2.1 _ finC_27).2.1) (g.row (y23_.ref h0_ (y23_.2.1 _ finC_27).2.1)).1.2.2.2.2.2.2 (by decide) (by decide)
            have t196_ : (qN S25_188 (qO S25_188 (qO S25_188 16 9) 7) : Int) = (qN U50 (qO U50 (qO U50 16 9) 7) : Int) := by rw [o190_]; exact f189_.kL (j := 7) y23_ (y23_.ref h0_ (y23_.2.1 _ finC_27).2.1) (g.row (y23_.ref h0_ (y23_.2.1 _ finC_27).2.1)).1.2.2.2.2.2.1 (by decide) (by decide)
            have t197_ : (qN S25_188 (qO S25_188 (qO S25_188 16 9) 0) : Int) = (qN U50 (qO U50 (qO U50 16 9) 0) : Int) := by rw [o190_]; exact f189_.kL (j := 0) y23_ (y23_.ref h0_ (y23_.2.1 _ finC_27).2.1) (g.row (y23_.ref h0_ (y23_.2.1 _ finC_27).2.1)).1.1 (by decide) (by decide)
            have t198_ : (qN S25_188 (qO S25_188 (qO S25_188 16 9) 6) : Int) = (qN U50 (qO U50 (qO U50 16 9) 6) : Int) := by rw [o190_]; exact f189_.kL (j := 6) y23_ (y23_.ref h0_ (y23_.2.1 _ finC_27).2.1) (g.row (y23_.ref h0_ (y23_.2.1 _ finC_27).2.1)).1.2.2.2.2.1 (by decide) (by decide)
            have t199_ : (qN S25_188 (qO S25_188 (qO S25_188 16 9) 3) : Int) = (qN U50 (qO U50 (qO U50 16 9) 3) : Int) := by rw [o190_]; exact f189_.kL (j := 3) y23_ (y23_.ref h0_ (y23_.2.1 _ finC_27).2.1) (g.row (y23_.ref h0_ (y23_.2.1 _ finC_27).2.1)).1.2.2.1 (by decide) (by decide)
            have t200_ : (qN S25_188 (qO S25_188 (qO S25_188 16 9) 5) : Int) = (qN U50 (qO U50 (qO U50 16 9) 5) : Int) := by rw [o190_]; exact f189_.kL (j := 5) y23_ (y23_.ref h0_ (y23_.2.1 _ finC_27).2.1) (g.row (y23_.ref h0_ (y23_.2.1 _ finC_27).2.1)).1.2.2.2.1 (by decide) (by decide)
            have t201_ : (qI S25_188 16 5).toInt = (qI U50 16 5).toInt := congrArg Int32.toInt (f189_.kI (j := 5) (y23_.2.1 _ finC_27).2.1 (by decide) (by decide))
            have t202_ : (qN S25_188 (qO S25_188 16 1) : Int) = (qN U50 (qO U50 16 1) : Int) := f189_.kL (j := 1) y23_ (y23_.2.1 _ finC_27).2.1 (y23_.ptr ptrC_4) (by decide) (by decide)
            have t203_ : (qN S25_188 (qO S25_188 16 3) : Int) = (qN U50 (qO U50 16 3) : Int) := f189_.kL (j := 3) y23_ (y23_.2.1 _ finC_27).2.1 (y23_.ptr ptrC_6) (by decide) (by decide)
            have t204_ : (qN S25_188 (qO S25_188 16 2) : Int) = (qN U50 (qO U50 16 2) : Int) := f189_.kL (j := 2) y23_ (y23_.2.1 _ finC_27).2.1 (y23_.ptr ptrC_5) (by decide) (by decide)
            have p205_ : qR S25_188 16 9 = some (qO S25_188 16 9) := f189_.kP (y23_.2.1 _ finC_27).2.1 h0_ (by decide) (by decide)
            have g : ShC B S25_188 := ShC.ws y23_ g f189_ (by rw [eS25_188]; rfl) (by rw [eS25_188]; rfl) (by rw [eS25_188]; rfl) rfl rfl
            refine ⟨?_, ?_⟩
            · have s206_ := (g.row (y26_.ref p205_ (y26_.2.1 _ finC_27).2.1)).2
              have s207_ := y26_.len9 (y26_.ref (y26_.ptr ptrC_4) (y26_.2.1 _ finC_27).2.1) (by decide)
              have s208_ := y26_.len9 (y26_.ref (y26_.ptr ptrC_5) (y26_.2.1 _ finC_27).2.1) (by decide)
              have s209_ := y26_.len9 (y26_.ref (y26_.ptr ptrC_6) (y26_.2.1 _ finC_27).2.1) (by decide)
              have s210_ := g.chk
              unfold ChKk at s210_
              have n1_ := rgI v50_1
              have n2_ := rgI v50_4
              have n3_ := rgI v50_2
              have n5_ := li_24k
              have n6_ := rgI (qI U50 16 5)
              have n6_ := t_addD (a := (24 : Int32)) (b := (qI U50 16 5))
              have n7_ := rgI ((24 : Int32) + (qI U50 16 5))
              have n8_ := rgI v50_3
              omega
            intro S28_211 eS28_211 y27_ y28_
            have f212_ : cfr [302] [] S25_188 S28_211 := by rw [eS28_211]; exact cfr.aI y27_ (by decide)
            have o213_ : qO S28_211 16 9 = qO S25_188 16 9 := qO_eq (f212_.kO (y26_.2.1 _ finC_27).2.1 (by decide) (by decide))
            have t214_ : (qI S28_211 (qO S28_211 16 9) 4).toInt = (qI S25_188 (qO S25_188 16 9) 4).toInt := by rw [o213_]; exact congrArg Int32.toInt (f212_.kI (j := 4) (y26_.ref p205_ (y26_.2.1 _ finC_27).2.1) (by decide) (by decide))
            have t215_ : (qI S28_211 (qO S28_211 16 9) 2).toInt = (qI S25_188 (qO S25_188 16 9) 2).toInt := by rw [o213_]; exact congrArg Int32.toInt (f212_.kI (j := 2) (y26_.ref p205_ (y26_.2.1 _ finC_27).2.1) (by decide) (by decide))
            have t216_ : (qI S28_211 (qO S28_211 16 9) 9).toInt = (qI S25_188 (qO S25_188 16 9) 9).toInt := by rw [o213_]; exact congrArg Int32.toInt (f212_.kI (j := 9) (y26_.ref p205_ (y26_.2.1 _ finC_27).2.1) (by decide) (by decide))
            have t217_ : (qN S28_211 (qO S28_211 (qO S28_211 16 9) 1) : Int) = (qN S25_188 (qO S25_188 (qO S25_188 16 9) 1) : Int) := by rw [o213_]; exact f212_.kL (j := 1) y26_ (y26_.ref p205_ (y26_.2.1 _ finC_27).2.1) (g.row (y26_.ref p205_ (y26_.2.1 _ finC_27).2.1)).1.2.1 (by decide) (by decide)
            have t218_ : (qN S28_211 (qO S28_211 (qO S28_211 16 9) 8) : Int) = (qN S25_188 (qO S25_188 (qO S25_188 16 9) 8) : Int) := by rw [o213_]; exact f212_.kL (j := 8) y26_ (y26_.ref p205_ (y26_.2.1 _ finC_27).2.1) (g.row (y26_.ref p205_ (y26_.2.1 _ finC_27).2.1)).1.2.2.2.2.2.2 (by decide) (by decide)
            have t219_ : (qN S28_211 (qO S28_211 (qO S28_211 16 9) 7) : Int) = (qN S25_188 (qO S25_188 (qO S25_188 16 9) 7) : Int) := by rw [o213_]; exact f212_.kL (j := 7) y26_ (y26_.ref p205_ (y26_.2.1 _ finC_27).2.1) (g.row (y26_.ref p205_ (y26_.2.1 _ finC_27).2.1)).1.2.2.2.2.2.1 (by decide) (by decide)
            have t220_ : (qN S28_211 (qO S28_211 (qO S28_211 16 9) 0) : Int) = (qN S25_188 (qO S25_188 (qO S25_188 16 9) 0) : Int) := by rw [o213_]; exact f212_.kL (j := 0) y26_ (y26_.ref p205_ (y26_.2.1 _ finC_27).2.1) (g.row (y26_.ref p205_ (y26_.2.1 _ finC_27).2.1)).1.1 (by decide) (by decide)
            have t221_ : (qN S28_211 (qO S28_211 (qO S28_211 16 9) 6) : Int) = (qN S25_188 (qO S25_188 (qO S25_188 16 9) 6) : Int) := by rw [o213_]; exact f212_.kL (j := 6) y26_ (y26_.ref p205_ (y26_.2.1 _ finC_27).2.1) (g.row (y26_.ref p205_ (y26_.2.1 _ finC_27).2.1)).1.2.2.2.2.1 (by decide) (by decide)
            have t222_ : (qN S28_211 (qO S28_211 (qO S28_211 16 9) 3) : Int) = (qN S25_188 (qO S25_188 (qO S25_188 16 9) 3) : Int) := by rw [o213_]; exact f212_.kL (j := 3) y26_ (y26_.ref p205_ (y26_.2.1 _ finC_27).2.1) (g.row (y26_.ref p205_ (y26_.2.1 _ finC_27).2.1)).1.2.2.1 (by decide) (by decide)
            have t223_ : (qN S28_211 (qO S28_211 (qO S28_211 16 9) 5) : Int) = (qN S25_188 (qO S25_188 (qO S25_188 16 9) 5) : Int) := by rw [o213_]; exact f212_.kL (j := 5) y26_ (y26_.ref p205_ (y26_.2.1 _ finC_27).2.1) (g.row (y26_.ref p205_ (y26_.2.1 _ finC_27).2.1)).1.2.2.2.1 (by decide) (by decide)
            have t224_ : (qI S28_211 16 5).toInt = (qI S25_188 16 5).toInt := congrArg Int32.toInt (f212_.kI (j := 5) (y26_.2.1 _ finC_27).2.1 (by decide) (by decide))
            have t225_ : (qN S28_211 (qO S28_211 16 1) : Int) = (qN S25_188 (qO S25_188 16 1) : Int) := f212_.kL (j := 1) y26_ (y26_.2.1 _ finC_27).2.1 (y26_.ptr ptrC_4) (by decide) (by decide)
            have t226_ : (qN S28_211 (qO S28_211 16 3) : Int) = (qN S25_188 (qO S25_188 16 3) : Int) := f212_.kL (j := 3) y26_ (y26_.2.1 _ finC_27).2.1 (y26_.ptr ptrC_6) (by decide) (by decide)
            have t227_ : (qN S28_211 (qO S28_211 16 2) : Int) = (qN S25_188 (qO S25_188 16 2) : Int) := f212_.kL (j := 2) y26_ (y26_.2.1 _ finC_27).2.1 (y26_.ptr ptrC_5) (by decide) (by decide)
            have p228_ : qR S28_211 16 9 = some (qO S28_211 16 9) := f212_.kP (y26_.2.1 _ finC_27).2.1 p205_ (by decide) (by decide)
            have g : ShC B S28_211 := ShC.ws y26_ g f212_ (by rw [eS28_211]; rfl) (by rw [eS28_211]; rfl) (by rw [eS28_211]; rfl) rfl rfl
            intro S29_229 eS29_229 y29_ y30_
            have f230_ : cfr [] [(41, 7)] S28_211 S29_229 := by rw [eS29_229]; exact cfr.oI y29_ (by decide)
            have o231_ : qO S29_229 16 9 = qO S28_211 16 9 := qO_eq (f230_.kO (y28_.2.1 _ finC_27).2.1 (by decide) (by decide))
            have t232_ : (qI S29_229 (qO S29_229 16 9) 4).toInt = (qI S28_211 (qO S28_211 16 9) 4).toInt := by rw [o231_]; exact congrArg Int32.toInt (f230_.kI (j := 4) (y28_.ref p228_ (y28_.2.1 _ finC_27).2.1) (by decide) (by decide))
            have t233_ : (qI S29_229 (qO S29_229 16 9) 2).toInt = (qI S28_211 (qO S28_211 16 9) 2).toInt := by rw [o231_]; exact congrArg Int32.toInt (f230_.kI (j := 2) (y28_.ref p228_ (y28_.2.1 _ finC_27).2.1) (by decide) (by decide))
            have t234_ : (qI S29_229 (qO S29_229 16 9) 9).toInt = (qI S28_211 (qO S28_211 16 9) 9).toInt := by rw [o231_]; exact congrArg Int32.toInt (f230_.kI (j := 9) (y28_.ref p228_ (y28_.2.1 _ finC_27).2.1) (by decide) (by decide))
            have t235_ : (qN S29_229 (qO S29_229 (qO S29_229 16 9) 1) : Int) = (qN S28_211 (qO S28_211 (qO S28_211 16 9) 1) : Int) := by rw [o231_]; exact f230_.kL (j := 1) y28_ (y28_.ref p228_ (y28_.2.1 _ finC_27).2.1) (g.row (y28_.ref p228_ (y28_.2.1 _ finC_27).2.1)).1.2.1 (by decide) (by decide)
            have t236_ : (qN S29_229 (qO S29_229 (qO S29_229 16 9) 8) : Int) = (qN S28_211 (qO S28_211 (qO S28_211 16 9) 8) : Int) := by rw [o231_]; exact f230_.kL (j := 8) y28_ (y28_.ref p228_ (y28_.2.1 _ finC_27).2.1) (g.row (y28_.ref p228_ (y28_.2.1 _ finC_27).2.1)).1.2.2.2.2.2.2 (by decide) (by decide)
            have t237_ : (qN S29_229 (qO S29_229 (qO S29_229 16 9) 7) : Int) = (qN S28_211 (qO S28_211 (qO S28_211 16 9) 7) : Int) := by rw [o231_]; exact f230_.kL (j := 7) y28_ (y28_.ref p228_ (y28_.2.1 _ finC_27).2.1) (g.row (y28_.ref p228_ (y28_.2.1 _ finC_27).2.1)).1.2.2.2.2.2.1 (by decide) (by decide)
            have t238_ : (qN S29_229 (qO S29_229 (qO S29_229 16 9) 0) : Int) = (qN S28_211 (qO S28_211 (qO S28_211 16 9) 0) : Int) := by rw [o231_]; exact f230_.kL (j := 0) y28_ (y28_.ref p228_ (y28_.2.1 _ finC_27).2.1) (g.row (y28_.ref p228_ (y28_.2.1 _ finC_27).2.1)).1.1 (by decide) (by decide)
            have t239_ : (qN S29_229 (qO S29_229 (qO S29_229 16 9) 6) : Int) = (qN S28_211 (qO S28_211 (qO S28_211 16 9) 6) : Int) := by rw [o231_]; exact f230_.kL (j := 6) y28_ (y28_.ref p228_ (y28_.2.1 _ finC_27).2.1) (g.row (y28_.ref p228_ (y28_.2.1 _ finC_27).2.1)).1.2.2.2.2.1 (by decide) (by decide)
            have t240_ : (qN S29_229 (qO S29_229 (qO S29_229 16 9) 3) : Int) = (qN S28_211 (qO S28_211 (qO S28_211 16 9) 3) : Int) := by rw [o231_]; exact f230_.kL (j := 3) y28_ (y28_.ref p228_ (y28_.2.1 _ finC_27).2.1) (g.row (y28_.ref p228_ (y28_.2.1 _ finC_27).2.1)).1.2.2.1 (by decide) (by decide)
            have t241_ : (qN S29_229 (qO S29_229 (qO S29_229 16 9) 5) : Int) = (qN S28_211 (qO S28_211 (qO S28_211 16 9) 5) : Int) := by rw [o231_]; exact f230_.kL (j := 5) y28_ (y28_.ref p228_ (y28_.2.1 _ finC_27).2.1) (g.row (y28_.ref p228_ (y28_.2.1 _ finC_27).2.1)).1.2.2.2.1 (by decide) (by decide)
            have t242_ : (qI S29_229 16 5).toInt = (qI S28_211 16 5).toInt := congrArg Int32.toInt (f230_.kI (j := 5) (y28_.2.1 _ finC_27).2.1 (by decide) (by decide))
            have t243_ : (qN S29_229 (qO S29_229 16 1) : Int) = (qN S28_211 (qO S28_211 16 1) : Int) := f230_.kL (j := 1) y28_ (y28_.2.1 _ finC_27).2.1 (y28_.ptr ptrC_4) (by decide) (by decide)
            have t244_ : (qN S29_229 (qO S29_229 16 3) : Int) = (qN S28_211 (qO S28_211 16 3) : Int) := f230_.kL (j := 3) y28_ (y28_.2.1 _ finC_27).2.1 (y28_.ptr ptrC_6) (by decide) (by decide)
            have t245_ : (qN S29_229 (qO S29_229 16 2) : Int) = (qN S28_211 (qO S28_211 16 2) : Int) := f230_.kL (j := 2) y28_ (y28_.2.1 _ finC_27).2.1 (y28_.ptr ptrC_5) (by decide) (by decide)
            have p246_ : qR S29_229 16 9 = some (qO S29_229 16 9) := f230_.kP (y28_.2.1 _ finC_27).2.1 p228_ (by decide) (by decide)
            have t247_ : (qI S29_229 16 7).toInt = (1 : Int32).toInt := by rw [eS29_229, qI_wI, if_pos ⟨rfl, rfl⟩]
            have g : ShC B S29_229 := ShC.ws y28_ g f230_ (by rw [eS29_229]; rfl) (by rw [eS29_229]; rfl) (by rw [eS29_229]; rfl) rfl rfl
            unfold w_X1_comeTo_J146
            intro y31_ y32_
            intro a21_248 ea21_248 
            have ga21_248 := congrArg Int32.toInt ea21_248
            refine ih50 g p246_ ?_ ?_ ?_ ?_ ?_
            · have s249_ := (g.row (y31_.ref p246_ (y31_.2.1 _ finC_27).2.1)).2
              have s250_ := y31_.len9 (y31_.ref (y31_.ptr ptrC_4) (y31_.2.1 _ finC_27).2.1) (by decide)
              have s251_ := y31_.len9 (y31_.ref (y31_.ptr ptrC_5) (y31_.2.1 _ finC_27).2.1) (by decide)
              have s252_ := y31_.len9 (y31_.ref (y31_.ptr ptrC_6) (y31_.2.1 _ finC_27).2.1) (by decide)
              have s253_ := g.chk
              unfold ChKk at s253_
              have n1_ := rgI a21_248
              have n2_ := rgI v50_4
              have n3_ := rgI v50_1
              have n4_ := rgI v50_2
              have n6_ := li_24k
              have n7_ := rgI (qI U50 16 5)
              have n7_ := t_addD (a := (24 : Int32)) (b := (qI U50 16 5))
              have n8_ := rgI ((24 : Int32) + (qI U50 16 5))
              have n9_ := rgI v50_3
              have n10_ := rgI (qI S29_229 16 7)
              have n11_ := li_1k
              have n13_ := lo_1k
              have n13_ := t_addD (a := v50_4) (b := Int32.ofInt 1)
              have n14_ := rgI (v50_4 + Int32.ofInt 1)
              omega
            · have s254_ := (g.row (y31_.ref p246_ (y31_.2.1 _ finC_27).2.1)).2
              have s255_ := y31_.len9 (y31_.ref (y31_.ptr ptrC_4) (y31_.2.1 _ finC_27).2.1) (by decide)
              have s256_ := y31_.len9 (y31_.ref (y31_.ptr ptrC_5) (y31_.2.1 _ finC_27).2.1) (by decide)
              have s257_ := y31_.len9 (y31_.ref (y31_.ptr ptrC_6) (y31_.2.1 _ finC_27).2.1) (by decide)
              have s258_ := g.chk
              unfold ChKk at s258_
              have n1_ := rgI v50_1
              have n2_ := rgI v50_4
              have n3_ := rgI v50_2
              have n5_ := li_24k
              have n6_ := rgI (qI U50 16 5)
              have n6_ := t_addD (a := (24 : Int32)) (b := (qI U50 16 5))
              have n7_ := rgI ((24 : Int32) + (qI U50 16 5))
              have n8_ := rgI v50_3
              have n9_ := rgI (qI S29_229 16 7)
              have n10_ := li_1k
              have n11_ := rgI a21_248
              have n13_ := lo_1k
              have n13_ := t_addD (a := v50_4) (b := Int32.ofInt 1)
              have n14_ := rgI (v50_4 + Int32.ofInt 1)
              omega
            · have s259_ := (g.row (y31_.ref p246_ (y31_.2.1 _ finC_27).2.1)).2
              have s260_ := y31_.len9 (y31_.ref (y31_.ptr ptrC_4) (y31_.2.1 _ finC_27).2.1) (by decide)
              have s261_ := y31_.len9 (y31_.ref (y31_.ptr ptrC_5) (y31_.2.1 _ finC_27).2.1) (by decide)
              have s262_ := y31_.len9 (y31_.ref (y31_.ptr ptrC_6) (y31_.2.1 _ finC_27).2.1) (by decide)
              have s263_ := g.chk
              unfold ChKk at s263_
              have n1_ := rgI v50_1
              have n2_ := rgI v50_4
              have n3_ := rgI v50_2
              have n5_ := li_24k
              have n6_ := rgI (qI U50 16 5)
              have n6_ := t_addD (a := (24 : Int32)) (b := (qI U50 16 5))
              have n7_ := rgI ((24 : Int32) + (qI U50 16 5))
              have n8_ := rgI v50_3
              have n9_ := rgI (qI S29_229 16 7)
              have n10_ := li_1k
              have n11_ := rgI a21_248
              have n13_ := lo_1k
              have n13_ := t_addD (a := v50_4) (b := Int32.ofInt 1)
              have n14_ := rgI (v50_4 + Int32.ofInt 1)
              omega
            · have s264_ := (g.row (y31_.ref p246_ (y31_.2.1 _ finC_27).2.1)).2
              have s265_ := y31_.len9 (y31_.ref (y31_.ptr ptrC_4) (y31_.2.1 _ finC_27).2.1) (by decide)
              have s266_ := y31_.len9 (y31_.ref (y31_.ptr ptrC_5) (y31_.2.1 _ finC_27).2.1) (by decide)
              have s267_ := y31_.len9 (y31_.ref (y31_.ptr ptrC_6) (y31_.2.1 _ finC_27).2.1) (by decide)
              have s268_ := g.chk
              unfold ChKk at s268_
              have n1_ := rgI v50_2
              have n2_ := rgI v50_1
              have n3_ := rgI v50_4
              have n5_ := li_24k
              have n6_ := rgI (qI U50 16 5)
              have n6_ := t_addD (a := (24 : Int32)) (b := (qI U50 16 5))
              have n7_ := rgI ((24 : Int32) + (qI U50 16 5))
              have n8_ := rgI v50_3
              have n9_ := rgI (qI S29_229 16 7)
              have n10_ := li_1k
              have n11_ := rgI a21_248
              have n13_ := lo_1k
              have n13_ := t_addD (a := v50_4) (b := Int32.ofInt 1)
              have n14_ := rgI (v50_4 + Int32.ofInt 1)
              omega
            · have s269_ := (g.row (y31_.ref p246_ (y31_.2.1 _ finC_27).2.1)).2
              have s270_ := y31_.len9 (y31_.ref (y31_.ptr ptrC_4) (y31_.2.1 _ finC_27).2.1) (by decide)
              have s271_ := y31_.len9 (y31_.ref (y31_.ptr ptrC_5) (y31_.2.1 _ finC_27).2.1) (by decide)
              have s272_ := y31_.len9 (y31_.ref (y31_.ptr ptrC_6) (y31_.2.1 _ finC_27).2.1) (by decide)
              have s273_ := g.chk
              unfold ChKk at s273_
              have n1_ := rgI a21_248
              have n2_ := rgI v50_4
              have n3_ := rgI v50_1
              have n4_ := rgI v50_2
              have n6_ := li_24k
              have n7_ := rgI (qI U50 16 5)
              have n7_ := t_addD (a := (24 : Int32)) (b := (qI U50 16 5))
              have n8_ := rgI ((24 : Int32) + (qI U50 16 5))
              have n9_ := rgI v50_3
              have n10_ := rgI (qI S29_229 16 7)
              have n11_ := li_1k
              have n13_ := lo_1k
              have n13_ := t_addD (a := v50_4) (b := Int32.ofInt 1)
              have n14_ := rgI (v50_4 + Int32.ofInt 1)
              omega
        · refine ⟨?_, ?_⟩
          · have s274_ := (g.row (y1_.ref h0_ (y1_.2.1 _ finC_27).2.1)).2
            have s275_ := y1_.len9 (y1_.ref (y1_.ptr ptrC_4) (y1_.2.1 _ finC_27).2.1) (by decide)
            have s276_ := y1_.len9 (y1_.ref (y1_.ptr ptrC_5) (y1_.2.1 _ finC_27).2.1) (by decide)
            have s277_ := y1_.len9 (y1_.ref (y1_.ptr ptrC_6) (y1_.2.1 _ finC_27).2.1) (by decide)
            have s278_ := g.chk
            unfold ChKk at s278_
            have n1_ := rgI v50_4
            have n2_ := rgI v50_1
            have n3_ := rgI v50_2
            have n5_ := li_24k
            have n6_ := rgI (qI U50 16 5)
            have n6_ := t_addD (a := (24 : Int32)) (b := (qI U50 16 5))
            have n7_ := rgI ((24 : Int32) + (qI U50 16 5))
            have n8_ := rgI v50_3
            omega
          unfold w_X1_comeTo_J102
          intro y33_ y34_
          refine ⟨fun c279_ => ?_, fun c279_ => ?_⟩
          · refine ⟨?_, ?_⟩
            · have s280_ := (g.row (y33_.ref h0_ (y33_.2.1 _ finC_27).2.1)).2
              have s281_ := y33_.len9 (y33_.ref (y33_.ptr ptrC_4) (y33_.2.1 _ finC_27).2.1) (by decide)
              have s282_ := y33_.len9 (y33_.ref (y33_.ptr ptrC_5) (y33_.2.1 _ finC_27).2.1) (by decide)
              have s283_ := y33_.len9 (y33_.ref (y33_.ptr ptrC_6) (y33_.2.1 _ finC_27).2.1) (by decide)
              have s284_ := g.chk
              unfold ChKk at s284_
              have n2_ := rgI v50_2
              have n3_ := rgI v50_4
              have n3_ := t_addD (a := v50_2) (b := v50_4)
              have n4_ := rgI (v50_2 + v50_4)
              have n5_ := rgI v50_1
              have n7_ := li_24k
              have n8_ := rgI (qI U50 16 5)
              have n8_ := t_addD (a := (24 : Int32)) (b := (qI U50 16 5))
              have n9_ := rgI ((24 : Int32) + (qI U50 16 5))
              have n10_ := rgI v50_3
              omega
            refine ⟨fun c285_ => ?_, fun c285_ => ?_⟩
            · unfold w_X1_comeTo_J146
              intro y35_ y36_
              intro a21_286 ea21_286 
              have ga21_286 := congrArg Int32.toInt ea21_286
              refine ih50 g h0_ ?_ ?_ ?_ ?_ ?_
              · have s287_ := (g.row (y35_.ref h0_ (y35_.2.1 _ finC_27).2.1)).2
                have s288_ := y35_.len9 (y35_.ref (y35_.ptr ptrC_4) (y35_.2.1 _ finC_27).2.1) (by decide)
                have s289_ := y35_.len9 (y35_.ref (y35_.ptr ptrC_5) (y35_.2.1 _ finC_27).2.1) (by decide)
                have s290_ := y35_.len9 (y35_.ref (y35_.ptr ptrC_6) (y35_.2.1 _ finC_27).2.1) (by decide)
                have s291_ := g.chk
                unfold ChKk at s291_
                have n1_ := rgI a21_286
                have n2_ := rgI v50_4
                have n3_ := rgI v50_1
                have n4_ := rgI v50_2
                have n6_ := li_24k
                have n7_ := rgI (qI U50 16 5)
                have n7_ := t_addD (a := (24 : Int32)) (b := (qI U50 16 5))
                have n8_ := rgI ((24 : Int32) + (qI U50 16 5))
                have n9_ := rgI v50_3
                have n10_ := rgI (qI U50 24 v50_4.toInt.toNat)
                have n11_ := t_addD (a := v50_2) (b := v50_4)
                have n12_ := rgI (v50_2 + v50_4)
                have n13_ := rgI (qI U50 (qO U50 16 1) (((v50_2 + v50_4).toInt).toNat))
                have n15_ := lo_1k
                have n15_ := t_addD (a := v50_4) (b := Int32.ofInt 1)
                have n16_ := rgI (v50_4 + Int32.ofInt 1)
                omega
              · have s292_ := (g.row (y35_.ref h0_ (y35_.2.1 _ finC_27).2.1)).2
                have s293_ := y35_.len9 (y35_.ref (y35_.ptr ptrC_4) (y35_.2.1 _ finC_27).2.1) (by decide)
                have s294_ := y35_.len9 (y35_.ref (y35_.ptr ptrC_5) (y35_.2.1 _ finC_27).2.1) (by decide)
                have s295_ := y35_.len9 (y35_.ref (y35_.ptr ptrC_6) (y35_.2.1 _ finC_27).2.1) (by decide)
                have s296_ := g.chk
                unfold ChKk at s296_
                have n1_ := rgI v50_1
                have n2_ := rgI v50_4
                have n3_ := rgI v50_2
                have n5_ := li_24k
                have n6_ := rgI (qI U50 16 5)
                have n6_ := t_addD (a := (24 : Int32)) (b := (qI U50 16 5))
                have n7_ := rgI ((24 : Int32) + (qI U50 16 5))
                have n8_ := rgI v50_3
                have n9_ := rgI (qI U50 24 v50_4.toInt.toNat)
                have n10_ := t_addD (a := v50_2) (b := v50_4)
                have n11_ := rgI (v50_2 + v50_4)
                have n12_ := rgI (qI U50 (qO U50 16 1) (((v50_2 + v50_4).toInt).toNat))
                have n13_ := rgI a21_286
                have n15_ := lo_1k
                have n15_ := t_addD (a := v50_4) (b := Int32.ofInt 1)
                have n16_ := rgI (v50_4 + Int32.ofInt 1)
                omega
              · have s297_ := (g.row (y35_.ref h0_ (y35_.2.1 _ finC_27).2.1)).2
                have s298_ := y35_.len9 (y35_.ref (y35_.ptr ptrC_4) (y35_.2.1 _ finC_27).2.1) (by decide)
                have s299_ := y35_.len9 (y35_.ref (y35_.ptr ptrC_5) (y35_.2.1 _ finC_27).2.1) (by decide)
                have s300_ := y35_.len9 (y35_.ref (y35_.ptr ptrC_6) (y35_.2.1 _ finC_27).2.1) (by decide)
                have s301_ := g.chk
                unfold ChKk at s301_
                have n1_ := rgI v50_1
                have n2_ := rgI v50_4
                have n3_ := rgI v50_2
                have n5_ := li_24k
                have n6_ := rgI (qI U50 16 5)
                have n6_ := t_addD (a := (24 : Int32)) (b := (qI U50 16 5))
                have n7_ := rgI ((24 : Int32) + (qI U50 16 5))
                have n8_ := rgI v50_3
                have n9_ := rgI (qI U50 24 v50_4.toInt.toNat)
                have n10_ := t_addD (a := v50_2) (b := v50_4)
                have n11_ := rgI (v50_2 + v50_4)
                have n12_ := rgI (qI U50 (qO U50 16 1) (((v50_2 + v50_4).toInt).toNat))
                have n13_ := rgI a21_286
                have n15_ := lo_1k
                have n15_ := t_addD (a := v50_4) (b := Int32.ofInt 1)
                have n16_ := rgI (v50_4 + Int32.ofInt 1)
                omega
              · have s302_ := (g.row (y35_.ref h0_ (y35_.2.1 _ finC_27).2.1)).2
                have s303_ := y35_.len9 (y35_.ref (y35_.ptr ptrC_4) (y35_.2.1 _ finC_27).2.1) (by decide)
                have s304_ := y35_.len9 (y35_.ref (y35_.ptr ptrC_5) (y35_.2.1 _ finC_27).2.1) (by decide)
                have s305_ := y35_.len9 (y35_.ref (y35_.ptr ptrC_6) (y35_.2.1 _ finC_27).2.1) (by decide)
                have s306_ := g.chk
                unfold ChKk at s306_
                have n1_ := rgI v50_2
                have n2_ := rgI v50_1
                have n3_ := rgI v50_4
                have n5_ := li_24k
                have n6_ := rgI (qI U50 16 5)
                have n6_ := t_addD (a := (24 : Int32)) (b := (qI U50 16 5))
                have n7_ := rgI ((24 : Int32) + (qI U50 16 5))
                have n8_ := rgI v50_3
                have n9_ := rgI (qI U50 24 v50_4.toInt.toNat)
                have n10_ := t_addD (a := v50_2) (b := v50_4)
                have n11_ := rgI (v50_2 + v50_4)
                have n12_ := rgI (qI U50 (qO U50 16 1) (((v50_2 + v50_4).toInt).toNat))
                have n13_ := rgI a21_286
                have n15_ := lo_1k
                have n15_ := t_addD (a := v50_4) (b := Int32.ofInt 1)
                have n16_ := rgI (v50_4 + Int32.ofInt 1)
                omega
              · have s307_ := (g.row (y35_.ref h0_ (y35_.2.1 _ finC_27).2.1)).2
                have s308_ := y35_.len9 (y35_.ref (y35_.ptr ptrC_4) (y35_.2.1 _ finC_27).2.1) (by decide)
                have s309_ := y35_.len9 (y35_.ref (y35_.ptr ptrC_5) (y35_.2.1 _ finC_27).2.1) (by decide)
                have s310_ := y35_.len9 (y35_.ref (y35_.ptr ptrC_6) (y35_.2.1 _ finC_27).2.1) (by decide)
                have s311_ := g.chk
                unfold ChKk at s311_
                have n1_ := rgI a21_286
                have n2_ := rgI v50_4
                have n3_ := rgI v50_1
                have n4_ := rgI v50_2
                have n6_ := li_24k
                have n7_ := rgI (qI U50 16 5)
                have n7_ := t_addD (a := (24 : Int32)) (b := (qI U50 16 5))
                have n8_ := rgI ((24 : Int32) + (qI U50 16 5))
                have n9_ := rgI v50_3
                have n10_ := rgI (qI U50 24 v50_4.toInt.toNat)
                have n11_ := t_addD (a := v50_2) (b := v50_4)
                have n12_ := rgI (v50_2 + v50_4)
                have n13_ := rgI (qI U50 (qO U50 16 1) (((v50_2 + v50_4).toInt).toNat))
                have n15_ := lo_1k
                have n15_ := t_addD (a := v50_4) (b := Int32.ofInt 1)
                have n16_ := rgI (v50_4 + Int32.ofInt 1)
                omega
            · unfold w_X1_comeTo_J122
              intro y37_ y38_
              refine ⟨?_, ?_⟩
              · have s312_ := (g.row (y37_.ref h0_ (y37_.2.1 _ finC_27).2.1)).2
                have s313_ := y37_.len9 (y37_.ref (y37_.ptr ptrC_4) (y37_.2.1 _ finC_27).2.1) (by decide)
                have s314_ := y37_.len9 (y37_.ref (y37_.ptr ptrC_5) (y37_.2.1 _ finC_27).2.1) (by decide)
                have s315_ := y37_.len9 (y37_.ref (y37_.ptr ptrC_6) (y37_.2.1 _ finC_27).2.1) (by decide)
                have s316_ := g.chk
                unfold ChKk at s316_
                have n2_ := rgI v50_2
                have n3_ := rgI v50_4
                have n3_ := t_addD (a := v50_2) (b := v50_4)
                have n4_ := rgI (v50_2 + v50_4)
                have n5_ := rgI v50_1
                have n7_ := li_24k
                have n8_ := rgI (qI U50 16 5)
                have n8_ := t_addD (a := (24 : Int32)) (b := (qI U50 16 5))
                have n9_ := rgI ((24 : Int32) + (qI U50 16 5))
                have n10_ := rgI v50_3
                have n11_ := rgI (qI U50 24 v50_4.toInt.toNat)
                have n12_ := rgI (qI U50 (qO U50 16 1) (((v50_2 + v50_4).toInt).toNat))
                omega
              intro S25_317 eS25_317 y39_ y40_
              have f318_ : cfr [102] [] U50 S25_317 := by rw [eS25_317]; exact cfr.aI y39_ (by decide)
              have o319_ : qO S25_317 16 9 = qO U50 16 9 := qO_eq (f318_.kO (y37_.2.1 _ finC_27).2.1 (by decide) (by decide))
              have t320_ : (qI S25_317 (qO S25_317 16 9) 4).toInt = (qI U50 (qO U50 16 9) 4).toInt := by rw [o319_]; exact congrArg Int32.toInt (f318_.kI (j := 4) (y37_.ref h0_ (y37_.2.1 _ finC_27).2.1) (by decide) (by decide))
              have t321_ : (qI S25_317 (qO S25_317 16 9) 2).toInt = (qI U50 (qO U50 16 9) 2).toInt := by rw [o319_]; exact congrArg Int32.toInt (f318_.kI (j := 2) (y37_.ref h0_ (y37_.2.1 _ finC_27).2.1) (by decide) (by decide))
              have t322_ : (qI S25_317 (qO S25_317 16 9) 9).toInt = (qI U50 (qO U50 16 9) 9).toInt := by rw [o319_]; exact congrArg Int32.toInt (f318_.kI (j := 9) (y37_.ref h0_ (y37_.2.1 _ finC_27).2.1) (by decide) (by decide))
              have t323_ : (qN S25_317 (qO S25_317 (qO S25_317 16 9) 1) : Int) = (qN U50 (qO U50 (qO U50 16 9) 1) : Int) := by rw [o319_]; exact f318_.kL (j := 1) y37_ (y37_.ref h0_ (y37_.2.1 _ finC_27).2.1) (g.row (y37_.ref h0_ (y37_.2.1 _ finC_27).2.1)).1.2.1 (by decide) (by decide)
              have t324_ : (qN S25_317 (qO S25_317 (qO S25_317 16 9) 8) : Int) = (qN U50 (qO U50 (qO U50 16 9) 8) : Int) := by rw [o319_]; exact f318_.kL (j := 8) y37_ (y37_.ref h0_ (y37_.2.1 _ finC_27).2.1) (g.row (y37_.ref h0_ (y37_.2.1 _ finC_27).2.1)).1.2.2.2.2.2.2 (by decide) (by decide)
              have t325_ : (qN S25_317 (qO S25_317 (qO S25_317 16 9) 7) : Int) = (qN U50 (qO U50 (qO U50 16 9) 7) : Int) := by rw [o319_]; exact f318_.kL (j := 7) y37_ (y37_.ref h0_ (y37_.2.1 _ finC_27).2.1) (g.row (y37_.ref h0_ (y37_.2.1 _ finC_27).2.1)).1.2.2.2.2.2.1 (by decide) (by decide)
              have t326_ : (qN S25_317 (qO S25_317 (qO S25_317 16 9) 0) : Int) = (qN U50 (qO U50 (qO U50 16 9) 0) : Int) := by rw [o319_]; exact f318_.kL (j := 0) y37_ (y37_.ref h0_ (y37_.2.1 _ finC_27).2.1) (g.row (y37_.ref h0_ (y37_.2.1 _ finC_27).2.1)).1.1 (by decide) (by decide)
              have t327_ : (qN S25_317 (qO S25_317 (qO S25_317 16 9) 6) : Int) = (qN U50 (qO U50 (qO U50 16 9) 6) : Int) := by rw [o319_]; exact f318_.kL (j := 6) y37_ (y37_.ref h0_ (y37_.2.1 _ finC_27).2.1) (g.row (y37_.ref h0_ (y37_.2.1 _ finC_27).2.1)).1.2.2.2.2.1 (by decide) (by decide)
              have t328_ : (qN S25_317 (qO S25_317 (qO S25_317 16 9) 3) : Int) = (qN U50 (qO U50 (qO U50 16 9) 3) : Int) := by rw [o319_]; exact f318_.kL (j := 3) y37_ (y37_.ref h0_ (y37_.2.1 _ finC_27).2.1) (g.row (y37_.ref h0_ (y37_.2.1 _ finC_27).2.1)).1.2.2.1 (by decide) (by decide)
              have t329_ : (qN S25_317 (qO S25_317 (qO S25_317 16 9) 5) : Int) = (qN U50 (qO U50 (qO U50 16 9) 5) : Int) := by rw [o319_]; exact f318_.kL (j := 5) y37_ (y37_.ref h0_ (y37_.2.1 _ finC_27).2.1) (g.row (y37_.ref h0_ (y37_.2.1 _ finC_27).2.1)).1.2.2.2.1 (by decide) (by decide)
              have t330_ : (qI S25_317 16 5).toInt = (qI U50 16 5).toInt := congrArg Int32.toInt (f318_.kI (j := 5) (y37_.2.1 _ finC_27).2.1 (by decide) (by decide))
              have t331_ : (qN S25_317 (qO S25_317 16 1) : Int) = (qN U50 (qO U50 16 1) : Int) := f318_.kL (j := 1) y37_ (y37_.2.1 _ finC_27).2.1 (y37_.ptr ptrC_4) (by decide) (by decide)
              have t332_ : (qN S25_317 (qO S25_317 16 3) : Int) = (qN U50 (qO U50 16 3) : Int) := f318_.kL (j := 3) y37_ (y37_.2.1 _ finC_27).2.1 (y37_.ptr ptrC_6) (by decide) (by decide)
              have t333_ : (qN S25_317 (qO S25_317 16 2) : Int) = (qN U50 (qO U50 16 2) : Int) := f318_.kL (j := 2) y37_ (y37_.2.1 _ finC_27).2.1 (y37_.ptr ptrC_5) (by decide) (by decide)
              have p334_ : qR S25_317 16 9 = some (qO S25_317 16 9) := f318_.kP (y37_.2.1 _ finC_27).2.1 h0_ (by decide) (by decide)
              have g : ShC B S25_317 := ShC.ws y37_ g f318_ (by rw [eS25_317]; rfl) (by rw [eS25_317]; rfl) (by rw [eS25_317]; rfl) rfl rfl
              refine ⟨?_, ?_⟩
              · have s335_ := (g.row (y40_.ref p334_ (y40_.2.1 _ finC_27).2.1)).2
                have s336_ := y40_.len9 (y40_.ref (y40_.ptr ptrC_4) (y40_.2.1 _ finC_27).2.1) (by decide)
                have s337_ := y40_.len9 (y40_.ref (y40_.ptr ptrC_5) (y40_.2.1 _ finC_27).2.1) (by decide)
                have s338_ := y40_.len9 (y40_.ref (y40_.ptr ptrC_6) (y40_.2.1 _ finC_27).2.1) (by decide)
                have s339_ := g.chk
                unfold ChKk at s339_
                have n1_ := rgI v50_1
                have n2_ := rgI v50_4
                have n3_ := rgI v50_2
                have n5_ := li_24k
                have n6_ := rgI (qI U50 16 5)
                have n6_ := t_addD (a := (24 : Int32)) (b := (qI U50 16 5))
                have n7_ := rgI ((24 : Int32) + (qI U50 16 5))
                have n8_ := rgI v50_3
                have n9_ := rgI (qI U50 24 v50_4.toInt.toNat)
                have n10_ := t_addD (a := v50_2) (b := v50_4)
                have n11_ := rgI (v50_2 + v50_4)
                have n12_ := rgI (qI U50 (qO U50 16 1) (((v50_2 + v50_4).toInt).toNat))
                omega
              intro S28_340 eS28_340 y41_ y42_
              have f341_ : cfr [302] [] S25_317 S28_340 := by rw [eS28_340]; exact cfr.aI y41_ (by decide)
              have o342_ : qO S28_340 16 9 = qO S25_317 16 9 := qO_eq (f341_.kO (y40_.2.1 _ finC_27).2.1 (by decide) (by decide))
              have t343_ : (qI S28_340 (qO S28_340 16 9) 4).toInt = (qI S25_317 (qO S25_317 16 9) 4).toInt := by rw [o342_]; exact congrArg Int32.toInt (f341_.kI (j := 4) (y40_.ref p334_ (y40_.2.1 _ finC_27).2.1) (by decide) (by decide))
              have t344_ : (qI S28_340 (qO S28_340 16 9) 2).toInt = (qI S25_317 (qO S25_317 16 9) 2).toInt := by rw [o342_]; exact congrArg Int32.toInt (f341_.kI (j := 2) (y40_.ref p334_ (y40_.2.1 _ finC_27).2.1) (by decide) (by decide))
              have t345_ : (qI S28_340 (qO S28_340 16 9) 9).toInt = (qI S25_317 (qO S25_317 16 9) 9).toInt := by rw [o342_]; exact congrArg Int32.toInt (f341_.kI (j := 9) (y40_.ref p334_ (y40_.2.1 _ finC_27).2.1) (by decide) (by decide))
              have t346_ : (qN S28_340 (qO S28_340 (qO S28_340 16 9) 1) : Int) = (qN S25_317 (qO S25_317 (qO S25_317 16 9) 1) : Int) := by rw [o342_]; exact f341_.kL (j := 1) y40_ (y40_.ref p334_ (y40_.2.1 _ finC_27).2.1) (g.row (y40_.ref p334_ (y40_.2.1 _ finC_27).2.1)).1.2.1 (by decide) (by decide)
              have t347_ : (qN S28_340 (qO S28_340 (qO S28_340 16 9) 8) : Int) = (qN S25_317 (qO S25_317 (qO S25_317 16 9) 8) : Int) := by rw [o342_]; exact f341_.kL (j := 8) y40_ (y40_.ref p334_ (y40_.2.1 _ finC_27).2.1) (g.row (y40_.ref p334_ (y40_.2.1 _ finC_27).2.1)).1.2.2.2.2.2.2 (by decide) (by decide)
              have t348_ : (qN S28_340 (qO S28_340 (qO S28_340 16 9) 7) : Int) = (qN S25_317 (qO S25_317 (qO S25_317 16 9) 7) : Int) := by rw [o342_]; exact f341_.kL (j := 7) y40_ (y40_.ref p334_ (y40_.2.1 _ finC_27).2.1) (g.row (y40_.ref p334_ (y40_.2.1 _ finC_27).2.1)).1.2.2.2.2.2.1 (by decide) (by decide)
              have t349_ : (qN S28_340 (qO S28_340 (qO S28_340 16 9) 0) : Int) = (qN S25_317 (qO S25_317 (qO S25_317 16 9) 0) : Int) := by rw [o342_]; exact f341_.kL (j := 0) y40_ (y40_.ref p334_ (y40_.2.1 _ finC_27).2.1) (g.row (y40_.ref p334_ (y40_.2.1 _ finC_27).2.1)).1.1 (by decide) (by decide)
              have t350_ : (qN S28_340 (qO S28_340 (qO S28_340 16 9) 6) : Int) = (qN S25_317 (qO S25_317 (qO S25_317 16 9) 6) : Int) := by rw [o342_]; exact f341_.kL (j := 6) y40_ (y40_.ref p334_ (y40_.2.1 _ finC_27).2.1) (g.row (y40_.ref p334_ (y40_.2.1 _ finC_27).2.1)).1.2.2.2.2.1 (by decide) (by decide)
              have t351_ : (qN S28_340 (qO S28_340 (qO S28_340 16 9) 3) : Int) = (qN S25_317 (qO S25_317 (qO S25_317 16 9) 3) : Int) := by rw [o342_]; exact f341_.kL (j := 3) y40_ (y40_.ref p334_ (y40_.2.1 _ finC_27).2.1) (g.row (y40_.ref p334_ (y40_.2.1 _ finC_27).2.1)).1.2.2.1 (by decide) (by decide)
              have t352_ : (qN S28_340 (qO S28_340 (qO S28_340 16 9) 5) : Int) = (qN S25_317 (qO S25_317 (qO S25_317 16 9) 5) : Int) := by rw [o342_]; exact f341_.kL (j := 5) y40_ (y40_.ref p334_ (y40_.2.1 _ finC_27).2.1) (g.row (y40_.ref p334_ (y40_.2.1 _ finC_27).2.1)).1.2.2.2.1 (by decide) (by decide)
              have t353_ : (qI S28_340 16 5).toInt = (qI S25_317 16 5).toInt := congrArg Int32.toInt (f341_.kI (j := 5) (y40_.2.1 _ finC_27).2.1 (by decide) (by decide))
              have t354_ : (qN S28_340 (qO S28_340 16 1) : Int) = (qN S25_317 (qO S25_317 16 1) : Int) := f341_.kL (j := 1) y40_ (y40_.2.1 _ finC_27).2.1 (y40_.ptr ptrC_4) (by decide) (by decide)
              have t355_ : (qN S28_340 (qO S28_340 16 3) : Int) = (qN S25_317 (qO S25_317 16 3) : Int) := f341_.kL (j := 3) y40_ (y40_.2.1 _ finC_27).2.1 (y40_.ptr ptrC_6) (by decide) (by decide)
              have t356_ : (qN S28_340 (qO S28_340 16 2) : Int) = (qN S25_317 (qO S25_317 16 2) : Int) := f341_.kL (j := 2) y40_ (y40_.2.1 _ finC_27).2.1 (y40_.ptr ptrC_5) (by decide) (by decide)
              have p357_ : qR S28_340 16 9 = some (qO S28_340 16 9) := f341_.kP (y40_.2.1 _ finC_27).2.1 p334_ (by decide) (by decide)
              have g : ShC B S28_340 := ShC.ws y40_ g f341_ (by rw [eS28_340]; rfl) (by rw [eS28_340]; rfl) (by rw [eS28_340]; rfl) rfl rfl
              intro S29_358 eS29_358 y43_ y44_
              have f359_ : cfr [] [(41, 7)] S28_340 S29_358 := by rw [eS29_358]; exact cfr.oI y43_ (by decide)
              have o360_ : qO S29_358 16 9 = qO S28_340 16 9 := qO_eq (f359_.kO (y42_.2.1 _ finC_27).2.1 (by decide) (by decide))
              have t361_ : (qI S29_358 (qO S29_358 16 9) 4).toInt = (qI S28_340 (qO S28_340 16 9) 4).toInt := by rw [o360_]; exact congrArg Int32.toInt (f359_.kI (j := 4) (y42_.ref p357_ (y42_.2.1 _ finC_27).2.1) (by decide) (by decide))
              have t362_ : (qI S29_358 (qO S29_358 16 9) 2).toInt = (qI S28_340 (qO S28_340 16 9) 2).toInt := by rw [o360_]; exact congrArg Int32.toInt (f359_.kI (j := 2) (y42_.ref p357_ (y42_.2.1 _ finC_27).2.1) (by decide) (by decide))
              have t363_ : (qI S29_358 (qO S29_358 16 9) 9).toInt = (qI S28_340 (qO S28_340 16 9) 9).toInt := by rw [o360_]; exact congrArg Int32.toInt (f359_.kI (j := 9) (y42_.ref p357_ (y42_.2.1 _ finC_27).2.1) (by decide) (by decide))
              have t364_ : (qN S29_358 (qO S29_358 (qO S29_358 16 9) 1) : Int) = (qN S28_340 (qO S28_340 (qO S28_340 16 9) 1) : Int) := by rw [o360_]; exact f359_.kL (j := 1) y42_ (y42_.ref p357_ (y42_.2.1 _ finC_27).2.1) (g.row (y42_.ref p357_ (y42_.2.1 _ finC_27).2.1)).1.2.1 (by decide) (by decide)
              have t365_ : (qN S29_358 (qO S29_358 (qO S29_358 16 9) 8) : Int) = (qN S28_340 (qO S28_340 (qO S28_340 16 9) 8) : Int) := by rw [o360_]; exact f359_.kL (j := 8) y42_ (y42_.ref p357_ (y42_.2.1 _ finC_27).2.1) (g.row (y42_.ref p357_ (y42_.2.1 _ finC_27).2.1)).1.2.2.2.2.2.2 (by decide) (by decide)
              have t366_ : (qN S29_358 (qO S29_358 (qO S29_358 16 9) 7) : Int) = (qN S28_340 (qO S28_340 (qO S28_340 16 9) 7) : Int) := by rw [o360_]; exact f359_.kL (j := 7) y42_ (y42_.ref p357_ (y42_.2.1 _ finC_27).2.1) (g.row (y42_.ref p357_ (y42_.2.1 _ finC_27).2.1)).1.2.2.2.2.2.1 (by decide) (by decide)
              have t367_ : (qN S29_358 (qO S29_358 (qO S29_358 16 9) 0) : Int) = (qN S28_340 (qO S28_340 (qO S28_340 16 9) 0) : Int) := by rw [o360_]; exact f359_.kL (j := 0) y42_ (y42_.ref p357_ (y42_.2.1 _ finC_27).2.1) (g.row (y42_.ref p357_ (y42_.2.1 _ finC_27).2.1)).1.1 (by decide) (by decide)
              have t368_ : (qN S29_358 (qO S29_358 (qO S29_358 16 9) 6) : Int) = (qN S28_340 (qO S28_340 (qO S28_340 16 9) 6) : Int) := by rw [o360_]; exact f359_.kL (j := 6) y42_ (y42_.ref p357_ (y42_.2.1 _ finC_27).2.1) (g.row (y42_.ref p357_ (y42_.2.1 _ finC_27).2.1)).1.2.2.2.2.1 (by decide) (by decide)
              have t369_ : (qN S29_358 (qO S29_358 (qO S29_358 16 9) 3) : Int) = (qN S28_340 (qO S28_340 (qO S28_340 16 9) 3) : Int) := by rw [o360_]; exact f359_.kL (j := 3) y42_ (y42_.ref p357_ (y42_.2.1 _ finC_27).2.1) (g.row (y42_.ref p357_ (y42_.2.1 _ finC_27).2.1)).1.2.2.1 (by decide) (by decide)
              have t370_ : (qN S29_358 (qO S29_358 (qO S29_358 16 9) 5) : Int) = (qN S28_340 (qO S28_340 (qO S28_340 16 9) 5) : Int) := by rw [o360_]; exact f359_.kL (j := 5) y42_ (y42_.ref p357_ (y42_.2.1 _ finC_27).2.1) (g.row (y42_.ref p357_ (y42_.2.1 _ finC_27).2.1)).1.2.2.2.1 (by decide) (by decide)
              have t371_ : (qI S29_358 16 5).toInt = (qI S28_340 16 5).toInt := congrArg Int32.toInt (f359_.kI (j := 5) (y42_.2.1 _ finC_27).2.1 (by decide) (by decide))
              have t372_ : (qN S29_358 (qO S29_358 16 1) : Int) = (qN S28_340 (qO S28_340 16 1) : Int) := f359_.kL (j := 1) y42_ (y42_.2.1 _ finC_27).2.1 (y42_.ptr ptrC_4) (by decide) (by decide)
              have t373_ : (qN S29_358 (qO S29_358 16 3) : Int) = (qN S28_340 (qO S28_340 16 3) : Int) := f359_.kL (j := 3) y42_ (y42_.2.1 _ finC_27).2.1 (y42_.ptr ptrC_6) (by decide) (by decide)
              have t374_ : (qN S29_358 (qO S29_358 16 2) : Int) = (qN S28_340 (qO S28_340 16 2) : Int) := f359_.kL (j := 2) y42_ (y42_.2.1 _ finC_27).2.1 (y42_.ptr ptrC_5) (by decide) (by decide)
              have p375_ : qR S29_358 16 9 = some (qO S29_358 16 9) := f359_.kP (y42_.2.1 _ finC_27).2.1 p357_ (by decide) (by decide)
              have t376_ : (qI S29_358 16 7).toInt = (1 : Int32).toInt := by rw [eS29_358, qI_wI, if_pos ⟨rfl, rfl⟩]
              have g : ShC B S29_358 := ShC.ws y42_ g f359_ (by rw [eS29_358]; rfl) (by rw [eS29_358]; rfl) (by rw [eS29_358]; rfl) rfl rfl
              unfold w_X1_comeTo_J146
              intro y45_ y46_
              intro a21_377 ea21_377 
              have ga21_377 := congrArg Int32.toInt ea21_377
              refine ih50 g p375_ ?_ ?_ ?_ ?_ ?_
              · have s378_ := (g.row (y45_.ref p375_ (y45_.2.1 _ finC_27).2.1)).2
                have s379_ := y45_.len9 (y45_.ref (y45_.ptr ptrC_4) (y45_.2.1 _ finC_27).2.1) (by decide)
                have s380_ := y45_.len9 (y45_.ref (y45_.ptr ptrC_5) (y45_.2.1 _ finC_27).2.1) (by decide)
                have s381_ := y45_.len9 (y45_.ref (y45_.ptr ptrC_6) (y45_.2.1 _ finC_27).2.1) (by decide)
                have s382_ := g.chk
                unfold ChKk at s382_
                have n1_ := rgI a21_377
                have n2_ := rgI v50_4
                have n3_ := rgI v50_1
                have n4_ := rgI v50_2
                have n6_ := li_24k
                have n7_ := rgI (qI U50 16 5)
                have n7_ := t_addD (a := (24 : Int32)) (b := (qI U50 16 5))
                have n8_ := rgI ((24 : Int32) + (qI U50 16 5))
                have n9_ := rgI v50_3
                have n10_ := rgI (qI U50 24 v50_4.toInt.toNat)
                have n11_ := t_addD (a := v50_2) (b := v50_4)
                have n12_ := rgI (v50_2 + v50_4)
                have n13_ := rgI (qI U50 (qO U50 16 1) (((v50_2 + v50_4).toInt).toNat))
                have n14_ := rgI (qI S29_358 16 7)
                have n15_ := li_1k
                have n17_ := lo_1k
                have n17_ := t_addD (a := v50_4) (b := Int32.ofInt 1)
                have n18_ := rgI (v50_4 + Int32.ofInt 1)
                omega
              · have s383_ := (g.row (y45_.ref p375_ (y45_.2.1 _ finC_27).2.1)).2
                have s384_ := y45_.len9 (y45_.ref (y45_.ptr ptrC_4) (y45_.2.1 _ finC_27).2.1) (by decide)
                have s385_ := y45_.len9 (y45_.ref (y45_.ptr ptrC_5) (y45_.2.1 _ finC_27).2.1) (by decide)
                have s386_ := y45_.len9 (y45_.ref (y45_.ptr ptrC_6) (y45_.2.1 _ finC_27).2.1) (by decide)
                have s387_ := g.chk
                unfold ChKk at s387_
                have n1_ := rgI v50_1
                have n2_ := rgI v50_4
                have n3_ := rgI v50_2
                have n5_ := li_24k
                have n6_ := rgI (qI U50 16 5)
                have n6_ := t_addD (a := (24 : Int32)) (b := (qI U50 16 5))
                have n7_ := rgI ((24 : Int32) + (qI U50 16 5))
                have n8_ := rgI v50_3
                have n9_ := rgI (qI U50 24 v50_4.toInt.toNat)
                have n10_ := t_addD (a := v50_2) (b := v50_4)
                have n11_ := rgI (v50_2 + v50_4)
                have n12_ := rgI (qI U50 (qO U50 16 1) (((v50_2 + v50_4).toInt).toNat))
                have n13_ := rgI (qI S29_358 16 7)
                have n14_ := li_1k
                have n15_ := rgI a21_377
                have n17_ := lo_1k
                have n17_ := t_addD (a := v50_4) (b := Int32.ofInt 1)
                have n18_ := rgI (v50_4 + Int32.ofInt 1)
                omega
              · have s388_ := (g.row (y45_.ref p375_ (y45_.2.1 _ finC_27).2.1)).2
                have s389_ := y45_.len9 (y45_.ref (y45_.ptr ptrC_4) (y45_.2.1 _ finC_27).2.1) (by decide)
                have s390_ := y45_.len9 (y45_.ref (y45_.ptr ptrC_5) (y45_.2.1 _ finC_27).2.1) (by decide)
                have s391_ := y45_.len9 (y45_.ref (y45_.ptr ptrC_6) (y45_.2.1 _ finC_27).2.1) (by decide)
                have s392_ := g.chk
                unfold ChKk at s392_
                have n1_ := rgI v50_1
                have n2_ := rgI v50_4
                have n3_ := rgI v50_2
                have n5_ := li_24k
                have n6_ := rgI (qI U50 16 5)
                have n6_ := t_addD (a := (24 : Int32)) (b := (qI U50 16 5))
                have n7_ := rgI ((24 : Int32) + (qI U50 16 5))
                have n8_ := rgI v50_3
                have n9_ := rgI (qI U50 24 v50_4.toInt.toNat)
                have n10_ := t_addD (a := v50_2) (b := v50_4)
                have n11_ := rgI (v50_2 + v50_4)
                have n12_ := rgI (qI U50 (qO U50 16 1) (((v50_2 + v50_4).toInt).toNat))
                have n13_ := rgI (qI S29_358 16 7)
                have n14_ := li_1k
                have n15_ := rgI a21_377
                have n17_ := lo_1k
                have n17_ := t_addD (a := v50_4) (b := Int32.ofInt 1)
                have n18_ := rgI (v50_4 + Int32.ofInt 1)
                omega
              · have s393_ := (g.row (y45_.ref p375_ (y45_.2.1 _ finC_27).2.1)).2
                have s394_ := y45_.len9 (y45_.ref (y45_.ptr ptrC_4) (y45_.2.1 _ finC_27).2.1) (by decide)
                have s395_ := y45_.len9 (y45_.ref (y45_.ptr ptrC_5) (y45_.2.1 _ finC_27).2.1) (by decide)
                have s396_ := y45_.len9 (y45_.ref (y45_.ptr ptrC_6) (y45_.2.1 _ finC_27).2.1) (by decide)
                have s397_ := g.chk
                unfold ChKk at s397_
                have n1_ := rgI v50_2
                have n2_ := rgI v50_1
                have n3_ := rgI v50_4
                have n5_ := li_24k
                have n6_ := rgI (qI U50 16 5)
                have n6_ := t_addD (a := (24 : Int32)) (b := (qI U50 16 5))
                have n7_ := rgI ((24 : Int32) + (qI U50 16 5))
                have n8_ := rgI v50_3
                have n9_ := rgI (qI U50 24 v50_4.toInt.toNat)
                have n10_ := t_addD (a := v50_2) (b := v50_4)
                have n11_ := rgI (v50_2 + v50_4)
                have n12_ := rgI (qI U50 (qO U50 16 1) (((v50_2 + v50_4).toInt).toNat))
                have n13_ := rgI (qI S29_358 16 7)
                have n14_ := li_1k
                have n15_ := rgI a21_377
                have n17_ := lo_1k
                have n17_ := t_addD (a := v50_4) (b := Int32.ofInt 1)
                have n18_ := rgI (v50_4 + Int32.ofInt 1)
                omega
              · have s398_ := (g.row (y45_.ref p375_ (y45_.2.1 _ finC_27).2.1)).2
                have s399_ := y45_.len9 (y45_.ref (y45_.ptr ptrC_4) (y45_.2.1 _ finC_27).2.1) (by decide)
                have s400_ := y45_.len9 (y45_.ref (y45_.ptr ptrC_5) (y45_.2.1 _ finC_27).2.1) (by decide)
                have s401_ := y45_.len9 (y45_.ref (y45_.ptr ptrC_6) (y45_.2.1 _ finC_27).2.1) (by decide)
                have s402_ := g.chk
                unfold ChKk at s402_
                have n1_ := rgI a21_377
                have n2_ := rgI v50_4
                have n3_ := rgI v50_1
                have n4_ := rgI v50_2
                have n6_ := li_24k
                have n7_ := rgI (qI U50 16 5)
                have n7_ := t_addD (a := (24 : Int32)) (b := (qI U50 16 5))
                have n8_ := rgI ((24 : Int32) + (qI U50 16 5))
                have n9_ := rgI v50_3
                have n10_ := rgI (qI U50 24 v50_4.toInt.toNat)
                have n11_ := t_addD (a := v50_2) (b := v50_4)
                have n12_ := rgI (v50_2 + v50_4)
                have n13_ := rgI (qI U50 (qO U50 16 1) (((v50_2 + v50_4).toInt).toNat))
                have n14_ := rgI (qI S29_358 16 7)
                have n15_ := li_1k
                have n17_ := lo_1k
                have n17_ := t_addD (a := v50_4) (b := Int32.ofInt 1)
                have n18_ := rgI (v50_4 + Int32.ofInt 1)
                omega
          · unfold w_X1_comeTo_J122
            intro y47_ y48_
            refine ⟨?_, ?_⟩
            · have s403_ := (g.row (y47_.ref h0_ (y47_.2.1 _ finC_27).2.1)).2
              have s404_ := y47_.len9 (y47_.ref (y47_.ptr ptrC_4) (y47_.2.1 _ finC_27).2.1) (by decide)
              have s405_ := y47_.len9 (y47_.ref (y47_.ptr ptrC_5) (y47_.2.1 _ finC_27).2.1) (by decide)
              have s406_ := y47_.len9 (y47_.ref (y47_.ptr ptrC_6) (y47_.2.1 _ finC_27).2.1) (by decide)
              have s407_ := g.chk
              unfold ChKk at s407_
              have n2_ := rgI v50_2
              have n3_ := rgI v50_4
              have n3_ := t_addD (a := v50_2) (b := v50_4)
              have n4_ := rgI (v50_2 + v50_4)
              have n5_ := rgI v50_1
              have n7_ := li_24k
              have n8_ := rgI (qI U50 16 5)
              have n8_ := t_addD (a := (24 : Int32)) (b := (qI U50 16 5))
              have n9_ := rgI ((24 : Int32) + (qI U50 16 5))
              have n10_ := rgI v50_3
              omega
            intro S25_408 eS25_408 y49_ y50_
            have f409_ : cfr [102] [] U50 S25_408 := by rw [eS25_408]; exact cfr.aI y49_ (by decide)
            have o410_ : qO S25_408 16 9 = qO U50 16 9 := qO_eq (f409_.kO (y47_.2.1 _ finC_27).2.1 (by decide) (by decide))
            have t411_ : (qI S25_408 (qO S25_408 16 9) 4).toInt = (qI U50 (qO U50 16 9) 4).toInt := by rw [o410_]; exact congrArg Int32.toInt (f409_.kI (j := 4) (y47_.ref h0_ (y47_.2.1 _ finC_27).2.1) (by decide) (by decide))
            have t412_ : (qI S25_408 (qO S25_408 16 9) 2).toInt = (qI U50 (qO U50 16 9) 2).toInt := by rw [o410_]; exact congrArg Int32.toInt (f409_.kI (j := 2) (y47_.ref h0_ (y47_.2.1 _ finC_27).2.1) (by decide) (by decide))
            have t413_ : (qI S25_408 (qO S25_408 16 9) 9).toInt = (qI U50 (qO U50 16 9) 9).toInt := by rw [o410_]; exact congrArg Int32.toInt (f409_.kI (j := 9) (y47_.ref h0_ (y47_.2.1 _ finC_27).2.1) (by decide) (by decide))
            have t414_ : (qN S25_408 (qO S25_408 (qO S25_408 16 9) 1) : Int) = (qN U50 (qO U50 (qO U50 16 9) 1) : Int) := by rw [o410_]; exact f409_.kL (j := 1) y47_ (y47_.ref h0_ (y47_.2.1 _ finC_27).2.1) (g.row (y47_.ref h0_ (y47_.2.1 _ finC_27).2.1)).1.2.1 (by decide) (by decide)
            have t415_ : (qN S25_408 (qO S25_408 (qO S25_408 16 9) 8) : Int) = (qN U50 (qO U50 (qO U50 16 9) 8) : Int) := by rw [o410_]; exact f409_.kL (j := 8) y47_ (y47_.ref h0_ (y47_.2.1 _ finC_27).2.1) (g.row (y47_.ref h0_ (y47_.2.1 _ finC_27).2.1)).1.2.2.2.2.2.2 (by decide) (by decide)
            have t416_ : (qN S25_408 (qO S25_408 (qO S25_408 16 9) 7) : Int) = (qN U50 (qO U50 (qO U50 16 9) 7) : Int) := by rw [o410_]; exact f409_.kL (j := 7) y47_ (y47_.ref h0_ (y47_.2.1 _ finC_27).2.1) (g.row (y47_.ref h0_ (y47_.2.1 _ finC_27).2.1)).1.2.2.2.2.2.1 (by decide) (by decide)
            have t417_ : (qN S25_408 (qO S25_408 (qO S25_408 16 9) 0) : Int) = (qN U50 (qO U50 (qO U50 16 9) 0) : Int) := by rw [o410_]; exact f409_.kL (j := 0) y47_ (y47_.ref h0_ (y47_.2.1 _ finC_27).2.1) (g.row (y47_.ref h0_ (y47_.2.1 _ finC_27).2.1)).1.1 (by decide) (by decide)
            have t418_ : (qN S25_408 (qO S25_408 (qO S25_408 16 9) 6) : Int) = (qN U50 (qO U50 (qO U50 16 9) 6) : Int) := by rw [o410_]; exact f409_.kL (j := 6) y47_ (y47_.ref h0_ (y47_.2.1 _ finC_27).2.1) (g.row (y47_.ref h0_ (y47_.2.1 _ finC_27).2.1)).1.2.2.2.2.1 (by decide) (by decide)
            have t419_ : (qN S25_408 (qO S25_408 (qO S25_408 16 9) 3) : Int) = (qN U50 (qO U50 (qO U50 16 9) 3) : Int) := by rw [o410_]; exact f409_.kL (j := 3) y47_ (y47_.ref h0_ (y47_.2.1 _ finC_27).2.1) (g.row (y47_.ref h0_ (y47_.2.1 _ finC_27).2.1)).1.2.2.1 (by decide) (by decide)
            have t420_ : (qN S25_408 (qO S25_408 (qO S25_408 16 9) 5) : Int) = (qN U50 (qO U50 (qO U50 16 9) 5) : Int) := by rw [o410_]; exact f409_.kL (j := 5) y47_ (y47_.ref h0_ (y47_.2.1 _ finC_27).2.1) (g.row (y47_.ref h0_ (y47_.2.1 _ finC_27).2.1)).1.2.2.2.1 (by decide) (by decide)
            have t421_ : (qI S25_408 16 5).toInt = (qI U50 16 5).toInt := congrArg Int32.toInt (f409_.kI (j := 5) (y47_.2.1 _ finC_27).2.1 (by decide) (by decide))
            have t422_ : (qN S25_408 (qO S25_408 16 1) : Int) = (qN U50 (qO U50 16 1) : Int) := f409_.kL (j := 1) y47_ (y47_.2.1 _ finC_27).2.1 (y47_.ptr ptrC_4) (by decide) (by decide)
            have t423_ : (qN S25_408 (qO S25_408 16 3) : Int) = (qN U50 (qO U50 16 3) : Int) := f409_.kL (j := 3) y47_ (y47_.2.1 _ finC_27).2.1 (y47_.ptr ptrC_6) (by decide) (by decide)
            have t424_ : (qN S25_408 (qO S25_408 16 2) : Int) = (qN U50 (qO U50 16 2) : Int) := f409_.kL (j := 2) y47_ (y47_.2.1 _ finC_27).2.1 (y47_.ptr ptrC_5) (by decide) (by decide)
            have p425_ : qR S25_408 16 9 = some (qO S25_408 16 9) := f409_.kP (y47_.2.1 _ finC_27).2.1 h0_ (by decide) (by decide)
            have g : ShC B S25_408 := ShC.ws y47_ g f409_ (by rw [eS25_408]; rfl) (by rw [eS25_408]; rfl) (by rw [eS25_408]; rfl) rfl rfl
            refine ⟨?_, ?_⟩
            · have s426_ := (g.row (y50_.ref p425_ (y50_.2.1 _ finC_27).2.1)).2
              have s427_ := y50_.len9 (y50_.ref (y50_.ptr ptrC_4) (y50_.2.1 _ finC_27).2.1) (by decide)
              have s428_ := y50_.len9 (y50_.ref (y50_.ptr ptrC_5) (y50_.2.1 _ finC_27).2.1) (by decide)
              have s429_ := y50_.len9 (y50_.ref (y50_.ptr ptrC_6) (y50_.2.1 _ finC_27).2.1) (by decide)
              have s430_ := g.chk
              unfold ChKk at s430_
              have n1_ := rgI v50_1
              have n2_ := rgI v50_4
              have n3_ := rgI v50_2
              have n5_ := li_24k
              have n6_ := rgI (qI U50 16 5)
              have n6_ := t_addD (a := (24 : Int32)) (b := (qI U50 16 5))
              have n7_ := rgI ((24 : Int32) + (qI U50 16 5))
              have n8_ := rgI v50_3
              omega
            intro S28_431 eS28_431 y51_ y52_
            have f432_ : cfr [302] [] S25_408 S28_431 := by rw [eS28_431]; exact cfr.aI y51_ (by decide)
            have o433_ : qO S28_431 16 9 = qO S25_408 16 9 := qO_eq (f432_.kO (y50_.2.1 _ finC_27).2.1 (by decide) (by decide))
            have t434_ : (qI S28_431 (qO S28_431 16 9) 4).toInt = (qI S25_408 (qO S25_408 16 9) 4).toInt := by rw [o433_]; exact congrArg Int32.toInt (f432_.kI (j := 4) (y50_.ref p425_ (y50_.2.1 _ finC_27).2.1) (by decide) (by decide))
            have t435_ : (qI S28_431 (qO S28_431 16 9) 2).toInt = (qI S25_408 (qO S25_408 16 9) 2).toInt := by rw [o433_]; exact congrArg Int32.toInt (f432_.kI (j := 2) (y50_.ref p425_ (y50_.2.1 _ finC_27).2.1) (by decide) (by decide))
            have t436_ : (qI S28_431 (qO S28_431 16 9) 9).toInt = (qI S25_408 (qO S25_408 16 9) 9).toInt := by rw [o433_]; exact congrArg Int32.toInt (f432_.kI (j := 9) (y50_.ref p425_ (y50_.2.1 _ finC_27).2.1) (by decide) (by decide))
            have t437_ : (qN S28_431 (qO S28_431 (qO S28_431 16 9) 1) : Int) = (qN S25_408 (qO S25_408 (qO S25_408 16 9) 1) : Int) := by rw [o433_]; exact f432_.kL (j := 1) y50_ (y50_.ref p425_ (y50_.2.1 _ finC_27).2.1) (g.row (y50_.ref p425_ (y50_.2.1 _ finC_27).2.1)).1.2.1 (by decide) (by decide)
            have t438_ : (qN S28_431 (qO S28_431 (qO S28_431 16 9) 8) : Int) = (qN S25_408 (qO S25_408 (qO S25_408 16 9) 8) : Int) := by rw [o433_]; exact f432_.kL (j := 8) y50_ (y50_.ref p425_ (y50_.2.1 _ finC_27).2.1) (g.row (y50_.ref p425_ (y50_.2.1 _ finC_27).2.1)).1.2.2.2.2.2.2 (by decide) (by decide)
            have t439_ : (qN S28_431 (qO S28_431 (qO S28_431 16 9) 7) : Int) = (qN S25_408 (qO S25_408 (qO S25_408 16 9) 7) : Int) := by rw [o433_]; exact f432_.kL (j := 7) y50_ (y50_.ref p425_ (y50_.2.1 _ finC_27).2.1) (g.row (y50_.ref p425_ (y50_.2.1 _ finC_27).2.1)).1.2.2.2.2.2.1 (by decide) (by decide)
            have t440_ : (qN S28_431 (qO S28_431 (qO S28_431 16 9) 0) : Int) = (qN S25_408 (qO S25_408 (qO S25_408 16 9) 0) : Int) := by rw [o433_]; exact f432_.kL (j := 0) y50_ (y50_.ref p425_ (y50_.2.1 _ finC_27).2.1) (g.row (y50_.ref p425_ (y50_.2.1 _ finC_27).2.1)).1.1 (by decide) (by decide)
            have t441_ : (qN S28_431 (qO S28_431 (qO S28_431 16 9) 6) : Int) = (qN S25_408 (qO S25_408 (qO S25_408 16 9) 6) : Int) := by rw [o433_]; exact f432_.kL (j := 6) y50_ (y50_.ref p425_ (y50_.2.1 _ finC_27).2.1) (g.row (y50_.ref p425_ (y50_.2.1 _ finC_27).2.1)).1.2.2.2.2.1 (by decide) (by decide)
            have t442_ : (qN S28_431 (qO S28_431 (qO S28_431 16 9) 3) : Int) = (qN S25_408 (qO S25_408 (qO S25_408 16 9) 3) : Int) := by rw [o433_]; exact f432_.kL (j := 3) y50_ (y50_.ref p425_ (y50_.2.1 _ finC_27).2.1) (g.row (y50_.ref p425_ (y50_.2.1 _ finC_27).2.1)).1.2.2.1 (by decide) (by decide)
            have t443_ : (qN S28_431 (qO S28_431 (qO S28_431 16 9) 5) : Int) = (qN S25_408 (qO S25_408 (qO S25_408 16 9) 5) : Int) := by rw [o433_]; exact f432_.kL (j := 5) y50_ (y50_.ref p425_ (y50_.2.1 _ finC_27).2.1) (g.row (y50_.ref p425_ (y50_.2.1 _ finC_27).2.1)).1.2.2.2.1 (by decide) (by decide)
            have t444_ : (qI S28_431 16 5).toInt = (qI S25_408 16 5).toInt := congrArg Int32.toInt (f432_.kI (j := 5) (y50_.2.1 _ finC_27).2.1 (by decide) (by decide))
            have t445_ : (qN S28_431 (qO S28_431 16 1) : Int) = (qN S25_408 (qO S25_408 16 1) : Int) := f432_.kL (j := 1) y50_ (y50_.2.1 _ finC_27).2.1 (y50_.ptr ptrC_4) (by decide) (by decide)
            have t446_ : (qN S28_431 (qO S28_431 16 3) : Int) = (qN S25_408 (qO S25_408 16 3) : Int) := f432_.kL (j := 3) y50_ (y50_.2.1 _ finC_27).2.1 (y50_.ptr ptrC_6) (by decide) (by decide)
            have t447_ : (qN S28_431 (qO S28_431 16 2) : Int) = (qN S25_408 (qO S25_408 16 2) : Int) := f432_.kL (j := 2) y50_ (y50_.2.1 _ finC_27).2.1 (y50_.ptr ptrC_5) (by decide) (by decide)
            have p448_ : qR S28_431 16 9 = some (qO S28_431 16 9) := f432_.kP (y50_.2.1 _ finC_27).2.1 p425_ (by decide) (by decide)
            have g : ShC B S28_431 := ShC.ws y50_ g f432_ (by rw [eS28_431]; rfl) (by rw [eS28_431]; rfl) (by rw [eS28_431]; rfl) rfl rfl
            intro S29_449 eS29_449 y53_ y54_
            have f450_ : cfr [] [(41, 7)] S28_431 S29_449 := by rw [eS29_449]; exact cfr.oI y53_ (by decide)
            have o451_ : qO S29_449 16 9 = qO S28_431 16 9 := qO_eq (f450_.kO (y52_.2.1 _ finC_27).2.1 (by decide) (by decide))
            have t452_ : (qI S29_449 (qO S29_449 16 9) 4).toInt = (qI S28_431 (qO S28_431 16 9) 4).toInt := by rw [o451_]; exact congrArg Int32.toInt (f450_.kI (j := 4) (y52_.ref p448_ (y52_.2.1 _ finC_27).2.1) (by decide) (by decide))
            have t453_ : (qI S29_449 (qO S29_449 16 9) 2).toInt = (qI S28_431 (qO S28_431 16 9) 2).toInt := by rw [o451_]; exact congrArg Int32.toInt (f450_.kI (j := 2) (y52_.ref p448_ (y52_.2.1 _ finC_27).2.1) (by decide) (by decide))
            have t454_ : (qI S29_449 (qO S29_449 16 9) 9).toInt = (qI S28_431 (qO S28_431 16 9) 9).toInt := by rw [o451_]; exact congrArg Int32.toInt (f450_.kI (j := 9) (y52_.ref p448_ (y52_.2.1 _ finC_27).2.1) (by decide) (by decide))
            have t455_ : (qN S29_449 (qO S29_449 (qO S29_449 16 9) 1) : Int) = (qN S28_431 (qO S28_431 (qO S28_431 16 9) 1) : Int) := by rw [o451_]; exact f450_.kL (j := 1) y52_ (y52_.ref p448_ (y52_.2.1 _ finC_27).2.1) (g.row (y52_.ref p448_ (y52_.2.1 _ finC_27).2.1)).1.2.1 (by decide) (by decide)
            have t456_ : (qN S29_449 (qO S29_449 (qO S29_449 16 9) 8) : Int) = (qN S28_431 (qO S28_431 (qO S28_431 16 9) 8) : Int) := by rw [o451_]; exact f450_.kL (j := 8) y52_ (y52_.ref p448_ (y52_.2.1 _ finC_27).2.1) (g.row (y52_.ref p448_ (y52_.2.1 _ finC_27).2.1)).1.2.2.2.2.2.2 (by decide) (by decide)
            have t457_ : (qN S29_449 (qO S29_449 (qO S29_449 16 9) 7) : Int) = (qN S28_431 (qO S28_431 (qO S28_431 16 9) 7) : Int) := by rw [o451_]; exact f450_.kL (j := 7) y52_ (y52_.ref p448_ (y52_.2.1 _ finC_27).2.1) (g.row (y52_.ref p448_ (y52_.2.1 _ finC_27).2.1)).1.2.2.2.2.2.1 (by decide) (by decide)
            have t458_ : (qN S29_449 (qO S29_449 (qO S29_449 16 9) 0) : Int) = (qN S28_431 (qO S28_431 (qO S28_431 16 9) 0) : Int) := by rw [o451_]; exact f450_.kL (j := 0) y52_ (y52_.ref p448_ (y52_.2.1 _ finC_27).2.1) (g.row (y52_.ref p448_ (y52_.2.1 _ finC_27).2.1)).1.1 (by decide) (by decide)
            have t459_ : (qN S29_449 (qO S29_449 (qO S29_449 16 9) 6) : Int) = (qN S28_431 (qO S28_431 (qO S28_431 16 9) 6) : Int) := by rw [o451_]; exact f450_.kL (j := 6) y52_ (y52_.ref p448_ (y52_.2.1 _ finC_27).2.1) (g.row (y52_.ref p448_ (y52_.2.1 _ finC_27).2.1)).1.2.2.2.2.1 (by decide) (by decide)
            have t460_ : (qN S29_449 (qO S29_449 (qO S29_449 16 9) 3) : Int) = (qN S28_431 (qO S28_431 (qO S28_431 16 9) 3) : Int) := by rw [o451_]; exact f450_.kL (j := 3) y52_ (y52_.ref p448_ (y52_.2.1 _ finC_27).2.1) (g.row (y52_.ref p448_ (y52_.2.1 _ finC_27).2.1)).1.2.2.1 (by decide) (by decide)
            have t461_ : (qN S29_449 (qO S29_449 (qO S29_449 16 9) 5) : Int) = (qN S28_431 (qO S28_431 (qO S28_431 16 9) 5) : Int) := by rw [o451_]; exact f450_.kL (j := 5) y52_ (y52_.ref p448_ (y52_.2.1 _ finC_27).2.1) (g.row (y52_.ref p448_ (y52_.2.1 _ finC_27).2.1)).1.2.2.2.1 (by decide) (by decide)
            have t462_ : (qI S29_449 16 5).toInt = (qI S28_431 16 5).toInt := congrArg Int32.toInt (f450_.kI (j := 5) (y52_.2.1 _ finC_27).2.1 (by decide) (by decide))
            have t463_ : (qN S29_449 (qO S29_449 16 1) : Int) = (qN S28_431 (qO S28_431 16 1) : Int) := f450_.kL (j := 1) y52_ (y52_.2.1 _ finC_27).2.1 (y52_.ptr ptrC_4) (by decide) (by decide)
            have t464_ : (qN S29_449 (qO S29_449 16 3) : Int) = (qN S28_431 (qO S28_431 16 3) : Int) := f450_.kL (j := 3) y52_ (y52_.2.1 _ finC_27).2.1 (y52_.ptr ptrC_6) (by decide) (by decide)
            have t465_ : (qN S29_449 (qO S29_449 16 2) : Int) = (qN S28_431 (qO S28_431 16 2) : Int) := f450_.kL (j := 2) y52_ (y52_.2.1 _ finC_27).2.1 (y52_.ptr ptrC_5) (by decide) (by decide)
            have p466_ : qR S29_449 16 9 = some (qO S29_449 16 9) := f450_.kP (y52_.2.1 _ finC_27).2.1 p448_ (by decide) (by decide)
            have t467_ : (qI S29_449 16 7).toInt = (1 : Int32).toInt := by rw [eS29_449, qI_wI, if_pos ⟨rfl, rfl⟩]
            have g : ShC B S29_449 := ShC.ws y52_ g f450_ (by rw [eS29_449]; rfl) (by rw [eS29_449]; rfl) (by rw [eS29_449]; rfl) rfl rfl
            unfold w_X1_comeTo_J146
            intro y55_ y56_
            intro a21_468 ea21_468 
            have ga21_468 := congrArg Int32.toInt ea21_468
            refine ih50 g p466_ ?_ ?_ ?_ ?_ ?_
            · have s469_ := (g.row (y55_.ref p466_ (y55_.2.1 _ finC_27).2.1)).2
              have s470_ := y55_.len9 (y55_.ref (y55_.ptr ptrC_4) (y55_.2.1 _ finC_27).2.1) (by decide)
              have s471_ := y55_.len9 (y55_.ref (y55_.ptr ptrC_5) (y55_.2.1 _ finC_27).2.1) (by decide)
              have s472_ := y55_.len9 (y55_.ref (y55_.ptr ptrC_6) (y55_.2.1 _ finC_27).2.1) (by decide)
              have s473_ := g.chk
              unfold ChKk at s473_
              have n1_ := rgI a21_468
              have n2_ := rgI v50_4
              have n3_ := rgI v50_1
              have n4_ := rgI v50_2
              have n6_ := li_24k
              have n7_ := rgI (qI U50 16 5)
              have n7_ := t_addD (a := (24 : Int32)) (b := (qI U50 16 5))
              have n8_ := rgI ((24 : Int32) + (qI U50 16 5))
              have n9_ := rgI v50_3
              have n10_ := rgI (qI S29_449 16 7)
              have n11_ := li_1k
              have n13_ := lo_1k
              have n13_ := t_addD (a := v50_4) (b := Int32.ofInt 1)
              have n14_ := rgI (v50_4 + Int32.ofInt 1)
              omega
            · have s474_ := (g.row (y55_.ref p466_ (y55_.2.1 _ finC_27).2.1)).2
              have s475_ := y55_.len9 (y55_.ref (y55_.ptr ptrC_4) (y55_.2.1 _ finC_27).2.1) (by decide)
              have s476_ := y55_.len9 (y55_.ref (y55_.ptr ptrC_5) (y55_.2.1 _ finC_27).2.1) (by decide)
              have s477_ := y55_.len9 (y55_.ref (y55_.ptr ptrC_6) (y55_.2.1 _ finC_27).2.1) (by decide)
              have s478_ := g.chk
              unfold ChKk at s478_
              have n1_ := rgI v50_1
              have n2_ := rgI v50_4
              have n3_ := rgI v50_2
              have n5_ := li_24k
              have n6_ := rgI (qI U50 16 5)
              have n6_ := t_addD (a := (24 : Int32)) (b := (qI U50 16 5))
              have n7_ := rgI ((24 : Int32) + (qI U50 16 5))
              have n8_ := rgI v50_3
              have n9_ := rgI (qI S29_449 16 7)
              have n10_ := li_1k
              have n11_ := rgI a21_468
              have n13_ := lo_1k
              have n13_ := t_addD (a := v50_4) (b := Int32.ofInt 1)
              have n14_ := rgI (v50_4 + Int32.ofInt 1)
              omega
            · have s479_ := (g.row (y55_.ref p466_ (y55_.2.1 _ finC_27).2.1)).2
              have s480_ := y55_.len9 (y55_.ref (y55_.ptr ptrC_4) (y55_.2.1 _ finC_27).2.1) (by decide)
              have s481_ := y55_.len9 (y55_.ref (y55_.ptr ptrC_5) (y55_.2.1 _ finC_27).2.1) (by decide)
              have s482_ := y55_.len9 (y55_.ref (y55_.ptr ptrC_6) (y55_.2.1 _ finC_27).2.1) (by decide)
              have s483_ := g.chk
              unfold ChKk at s483_
              have n1_ := rgI v50_1
              have n2_ := rgI v50_4
              have n3_ := rgI v50_2
              have n5_ := li_24k
              have n6_ := rgI (qI U50 16 5)
              have n6_ := t_addD (a := (24 : Int32)) (b := (qI U50 16 5))
              have n7_ := rgI ((24 : Int32) + (qI U50 16 5))
              have n8_ := rgI v50_3
              have n9_ := rgI (qI S29_449 16 7)
              have n10_ := li_1k
              have n11_ := rgI a21_468
              have n13_ := lo_1k
              have n13_ := t_addD (a := v50_4) (b := Int32.ofInt 1)
              have n14_ := rgI (v50_4 + Int32.ofInt 1)
              omega
            · have s484_ := (g.row (y55_.ref p466_ (y55_.2.1 _ finC_27).2.1)).2
              have s485_ := y55_.len9 (y55_.ref (y55_.ptr ptrC_4) (y55_.2.1 _ finC_27).2.1) (by decide)
              have s486_ := y55_.len9 (y55_.ref (y55_.ptr ptrC_5) (y55_.2.1 _ finC_27).2.1) (by decide)
              have s487_ := y55_.len9 (y55_.ref (y55_.ptr ptrC_6) (y55_.2.1 _ finC_27).2.1) (by decide)
              have s488_ := g.chk
              unfold ChKk at s488_
              have n1_ := rgI v50_2
              have n2_ := rgI v50_1
              have n3_ := rgI v50_4
              have n5_ := li_24k
              have n6_ := rgI (qI U50 16 5)
              have n6_ := t_addD (a := (24 : Int32)) (b := (qI U50 16 5))
              have n7_ := rgI ((24 : Int32) + (qI U50 16 5))
              have n8_ := rgI v50_3
              have n9_ := rgI (qI S29_449 16 7)
              have n10_ := li_1k
              have n11_ := rgI a21_468
              have n13_ := lo_1k
              have n13_ := t_addD (a := v50_4) (b := Int32.ofInt 1)
              have n14_ := rgI (v50_4 + Int32.ofInt 1)
              omega
            · have s489_ := (g.row (y55_.ref p466_ (y55_.2.1 _ finC_27).2.1)).2
              have s490_ := y55_.len9 (y55_.ref (y55_.ptr ptrC_4) (y55_.2.1 _ finC_27).2.1) (by decide)
              have s491_ := y55_.len9 (y55_.ref (y55_.ptr ptrC_5) (y55_.2.1 _ finC_27).2.1) (by decide)
              have s492_ := y55_.len9 (y55_.ref (y55_.ptr ptrC_6) (y55_.2.1 _ finC_27).2.1) (by decide)
              have s493_ := g.chk
              unfold ChKk at s493_
              have n1_ := rgI a21_468
              have n2_ := rgI v50_4
              have n3_ := rgI v50_1
              have n4_ := rgI v50_2
              have n6_ := li_24k
              have n7_ := rgI (qI U50 16 5)
              have n7_ := t_addD (a := (24 : Int32)) (b := (qI U50 16 5))
              have n8_ := rgI ((24 : Int32) + (qI U50 16 5))
              have n9_ := rgI v50_3
              have n10_ := rgI (qI S29_449 16 7)
              have n11_ := li_1k
              have n13_ := lo_1k
              have n13_ := t_addD (a := v50_4) (b := Int32.ofInt 1)
              have n14_ := rgI (v50_4 + Int32.ofInt 1)
              omega
set_option maxRecDepth 100000 in
theorem sg_X1_comeTo_J46 {B : Nat × Nat} {U46 : MS} {t46_0 : Int32} {v46_1 : Int32} {v46_2 : Int32} (g : ShC B U46) (h0_ : qR U46 16 9 = some (qO U46 16 9)) (j0_ : 0 ≤ v46_1.toInt) (j1_ : v46_1.toInt < (qN U46 (qO U46 16 2) : Int)) (j2_ : v46_2.toInt = 48 * v46_1.toInt) : w_X1_comeTo_J46 (fun u => ShC B u ∧ (True)) U46 t46_0 v46_1 v46_2 := by
  unfold w_X1_comeTo_J46
  intro y57_ y58_
  refine ⟨(2147483648 - (0 : Int32).toInt).toNat + 1, ?_⟩
  refine sg_X1_comeTo_L50  _ g h0_ ?_ ?_ ?_ ?_ ?_
  · have s494_ := (g.row (y57_.ref h0_ (y57_.2.1 _ finC_27).2.1)).2
    have s495_ := y57_.len9 (y57_.ref (y57_.ptr ptrC_4) (y57_.2.1 _ finC_27).2.1) (by decide)
    have s496_ := y57_.len9 (y57_.ref (y57_.ptr ptrC_5) (y57_.2.1 _ finC_27).2.1) (by decide)
    have s497_ := y57_.len9 (y57_.ref (y57_.ptr ptrC_6) (y57_.2.1 _ finC_27).2.1) (by decide)
    have s498_ := g.chk
    unfold ChKk at s498_
    have n1_ := li_0k
    have n2_ := rgI v46_1
    have n3_ := rgI v46_2
    omega
  · have s499_ := (g.row (y57_.ref h0_ (y57_.2.1 _ finC_27).2.1)).2
    have s500_ := y57_.len9 (y57_.ref (y57_.ptr ptrC_4) (y57_.2.1 _ finC_27).2.1) (by decide)
    have s501_ := y57_.len9 (y57_.ref (y57_.ptr ptrC_5) (y57_.2.1 _ finC_27).2.1) (by decide)
    have s502_ := y57_.len9 (y57_.ref (y57_.ptr ptrC_6) (y57_.2.1 _ finC_27).2.1) (by decide)
    have s503_ := g.chk
    unfold ChKk at s503_
    have n1_ := rgI v46_1
    have n2_ := rgI v46_2
    omega
  · have s504_ := (g.row (y57_.ref h0_ (y57_.2.1 _ finC_27).2.1)).2
    have s505_ := y57_.len9 (y57_.ref (y57_.ptr ptrC_4) (y57_.2.1 _ finC_27).2.1) (by decide)
    have s506_ := y57_.len9 (y57_.ref (y57_.ptr ptrC_5) (y57_.2.1 _ finC_27).2.1) (by decide)
    have s507_ := y57_.len9 (y57_.ref (y57_.ptr ptrC_6) (y57_.2.1 _ finC_27).2.1) (by decide)
    have s508_ := g.chk
    unfold ChKk at s508_
    have n1_ := rgI v46_1
    have n2_ := rgI v46_2
    omega
  · have s509_ := (g.row (y57_.ref h0_ (y57_.2.1 _ finC_27).2.1)).2
    have s510_ := y57_.len9 (y57_.ref (y57_.ptr ptrC_4) (y57_.2.1 _ finC_27).2.1) (by decide)
    have s511_ := y57_.len9 (y57_.ref (y57_.ptr ptrC_5) (y57_.2.1 _ finC_27).2.1) (by decide)
    have s512_ := y57_.len9 (y57_.ref (y57_.ptr ptrC_6) (y57_.2.1 _ finC_27).2.1) (by decide)
    have s513_ := g.chk
    unfold ChKk at s513_
    have n1_ := rgI v46_2
    have n2_ := rgI v46_1
    omega
  · have s514_ := (g.row (y57_.ref h0_ (y57_.2.1 _ finC_27).2.1)).2
    have s515_ := y57_.len9 (y57_.ref (y57_.ptr ptrC_4) (y57_.2.1 _ finC_27).2.1) (by decide)
    have s516_ := y57_.len9 (y57_.ref (y57_.ptr ptrC_5) (y57_.2.1 _ finC_27).2.1) (by decide)
    have s517_ := y57_.len9 (y57_.ref (y57_.ptr ptrC_6) (y57_.2.1 _ finC_27).2.1) (by decide)
    have s518_ := g.chk
    unfold ChKk at s518_
    have n1_ := li_0k
    have n2_ := rgI v46_1
    have n3_ := rgI v46_2
    omega
set_option maxRecDepth 100000 in
theorem sgX1_comeTo {B : Nat × Nat} {S : MS} {x1 : Int32} (hw : wfC S) (g : ShC B S) (qp0_ : qR S 16 9 = some (qO S 16 9)) (a0_ : (qI S (qO S 16 9) 2).toInt ≤ (qN S (qO S 16 2) : Int)) : wX1_comeTo S x1 (fun u => ShC B u ∧ (True)) := by
  unfold wX1_comeTo
  refine ⟨fun c519_ => ?_, fun c519_ => ?_⟩
  · exact ⟨g, trivial⟩
  · refine ⟨?_, ?_⟩
    · exact qp0_
    refine ⟨fun c520_ => ?_, fun c520_ => ?_⟩
    · exact ⟨g, trivial⟩
    · refine ⟨?_, ?_⟩
      · exact (dd_X4_isWrong hw g (hw.2.1 _ finC_0).2.1)
      refine ⟨fun c521_ => ?_, fun c521_ => ?_⟩
      · intro a10_522 ea10_522 
        have ga10_522 := congrArg Int32.toInt ea10_522
        refine ⟨?_, ?_⟩
        · have s523_ := (g.row (hw.ref qp0_ (hw.2.1 _ finC_27).2.1)).2
          have s524_ := hw.len9 (hw.ref (hw.ptr ptrC_4) (hw.2.1 _ finC_27).2.1) (by decide)
          have s525_ := hw.len9 (hw.ref (hw.ptr ptrC_5) (hw.2.1 _ finC_27).2.1) (by decide)
          have s526_ := hw.len9 (hw.ref (hw.ptr ptrC_6) (hw.2.1 _ finC_27).2.1) (by decide)
          have s527_ := g.chk
          unfold ChKk at s527_
          have n1_ := rgI x1
          have n2_ := rgI (qI S (qO S 16 9) 2)
          have n3_ := rgI (fX4_isWrong S 17 x1)
          have n4_ := rgI a10_522
          have n5_ := rgI (x1 * (48 : Int32))
          have n6q_ := t_mulR (a := x1) li_48k
          have n6w_ := rgI (x1 * (48 : Int32))
          have n7_ := li_48k
          omega
        refine ⟨fun c528_ => ?_, fun c528_ => ?_⟩
        · refine sg_X1_comeTo_J46  g qp0_ ?_ ?_ ?_
          · have s529_ := (g.row (hw.ref qp0_ (hw.2.1 _ finC_27).2.1)).2
            have s530_ := hw.len9 (hw.ref (hw.ptr ptrC_4) (hw.2.1 _ finC_27).2.1) (by decide)
            have s531_ := hw.len9 (hw.ref (hw.ptr ptrC_5) (hw.2.1 _ finC_27).2.1) (by decide)
            have s532_ := hw.len9 (hw.ref (hw.ptr ptrC_6) (hw.2.1 _ finC_27).2.1) (by decide)
            have s533_ := g.chk
            unfold ChKk at s533_
            have n1_ := rgI x1
            have n2_ := rgI (qI S (qO S 16 9) 2)
            have n3_ := rgI (fX4_isWrong S 17 x1)
            have n4_ := rgI a10_522
            have n5_ := rgI (x1 * (48 : Int32))
            have n6_ := rgI (qI S (qO S 16 2) x1.toInt.toNat)
            have n7q_ := t_mulR (a := x1) li_48k
            have n7w_ := rgI (x1 * (48 : Int32))
            have n8_ := li_48k
            omega
          · have s534_ := (g.row (hw.ref qp0_ (hw.2.1 _ finC_27).2.1)).2
            have s535_ := hw.len9 (hw.ref (hw.ptr ptrC_4) (hw.2.1 _ finC_27).2.1) (by decide)
            have s536_ := hw.len9 (hw.ref (hw.ptr ptrC_5) (hw.2.1 _ finC_27).2.1) (by decide)
            have s537_ := hw.len9 (hw.ref (hw.ptr ptrC_6) (hw.2.1 _ finC_27).2.1) (by decide)
            have s538_ := g.chk
            unfold ChKk at s538_
            have n1_ := rgI x1
            have n2_ := rgI (qI S (qO S 16 9) 2)
            have n3_ := rgI (fX4_isWrong S 17 x1)
            have n4_ := rgI a10_522
            have n5_ := rgI (x1 * (48 : Int32))
            have n6_ := rgI (qI S (qO S 16 2) x1.toInt.toNat)
            have n7q_ := t_mulR (a := x1) li_48k
            have n7w_ := rgI (x1 * (48 : Int32))
            have n8_ := li_48k
            omega
          · have s539_ := (g.row (hw.ref qp0_ (hw.2.1 _ finC_27).2.1)).2
            have s540_ := hw.len9 (hw.ref (hw.ptr ptrC_4) (hw.2.1 _ finC_27).2.1) (by decide)
            have s541_ := hw.len9 (hw.ref (hw.ptr ptrC_5) (hw.2.1 _ finC_27).2.1) (by decide)
            have s542_ := hw.len9 (hw.ref (hw.ptr ptrC_6) (hw.2.1 _ finC_27).2.1) (by decide)
            have s543_ := g.chk
            unfold ChKk at s543_
            have n1_ := rgI a10_522
            have n2_ := rgI x1
            have n3_ := rgI (qI S (qO S 16 9) 2)
            have n4_ := rgI (fX4_isWrong S 17 x1)
            have n5_ := rgI (x1 * (48 : Int32))
            have n6_ := rgI (qI S (qO S 16 2) x1.toInt.toNat)
            have n7q_ := t_mulR (a := x1) li_48k
            have n7w_ := rgI (x1 * (48 : Int32))
            have n8_ := li_48k
            omega
        · refine sg_X1_comeTo_J46  g qp0_ ?_ ?_ ?_
          · have s544_ := (g.row (hw.ref qp0_ (hw.2.1 _ finC_27).2.1)).2
            have s545_ := hw.len9 (hw.ref (hw.ptr ptrC_4) (hw.2.1 _ finC_27).2.1) (by decide)
            have s546_ := hw.len9 (hw.ref (hw.ptr ptrC_5) (hw.2.1 _ finC_27).2.1) (by decide)
            have s547_ := hw.len9 (hw.ref (hw.ptr ptrC_6) (hw.2.1 _ finC_27).2.1) (by decide)
            have s548_ := g.chk
            unfold ChKk at s548_
            have n1_ := rgI x1
            have n2_ := rgI (qI S (qO S 16 9) 2)
            have n3_ := rgI (fX4_isWrong S 17 x1)
            have n4_ := rgI a10_522
            have n5_ := rgI (x1 * (48 : Int32))
            have n6_ := rgI (qI S (qO S 16 2) x1.toInt.toNat)
            have n7q_ := t_mulR (a := x1) li_48k
            have n7w_ := rgI (x1 * (48 : Int32))
            have n8_ := li_48k
            omega
          · have s549_ := (g.row (hw.ref qp0_ (hw.2.1 _ finC_27).2.1)).2
            have s550_ := hw.len9 (hw.ref (hw.ptr ptrC_4) (hw.2.1 _ finC_27).2.1) (by decide)
            have s551_ := hw.len9 (hw.ref (hw.ptr ptrC_5) (hw.2.1 _ finC_27).2.1) (by decide)
            have s552_ := hw.len9 (hw.ref (hw.ptr ptrC_6) (hw.2.1 _ finC_27).2.1) (by decide)
            have s553_ := g.chk
            unfold ChKk at s553_
            have n1_ := rgI x1
            have n2_ := rgI (qI S (qO S 16 9) 2)
            have n3_ := rgI (fX4_isWrong S 17 x1)
            have n4_ := rgI a10_522
            have n5_ := rgI (x1 * (48 : Int32))
            have n6_ := rgI (qI S (qO S 16 2) x1.toInt.toNat)
            have n7q_ := t_mulR (a := x1) li_48k
            have n7w_ := rgI (x1 * (48 : Int32))
            have n8_ := li_48k
            omega
          · have s554_ := (g.row (hw.ref qp0_ (hw.2.1 _ finC_27).2.1)).2
            have s555_ := hw.len9 (hw.ref (hw.ptr ptrC_4) (hw.2.1 _ finC_27).2.1) (by decide)
            have s556_ := hw.len9 (hw.ref (hw.ptr ptrC_5) (hw.2.1 _ finC_27).2.1) (by decide)
            have s557_ := hw.len9 (hw.ref (hw.ptr ptrC_6) (hw.2.1 _ finC_27).2.1) (by decide)
            have s558_ := g.chk
            unfold ChKk at s558_
            have n1_ := rgI a10_522
            have n2_ := rgI x1
            have n3_ := rgI (qI S (qO S 16 9) 2)
            have n4_ := rgI (fX4_isWrong S 17 x1)
            have n5_ := rgI (x1 * (48 : Int32))
            have n6_ := rgI (qI S (qO S 16 2) x1.toInt.toNat)
            have n7q_ := t_mulR (a := x1) li_48k
            have n7w_ := rgI (x1 * (48 : Int32))
            have n8_ := li_48k
            omega
      · exact ⟨g, trivial⟩
set_option maxRecDepth 100000 in
theorem sgX1_takeUp {B : Nat × Nat} {S : MS} {x1 : Int32} (hw : wfC S) (g : ShC B S) (a0_ : 0 ≤ x1.toInt) (a1_ : x1.toInt < (qN S (qO S 16 2) : Int)) : wX1_takeUp S x1 (fun u => ShC B u ∧ (True)) := by
  unfold wX1_takeUp
  refine ⟨?_, ?_⟩
  · exact (dd_X4_heightAt hw g (hw.2.1 _ finC_0).2.1)
  intro S6_0 eS6_0 y1_ y2_
  have f1_ : cfr [] [(41, 5)] S S6_0 := by rw [eS6_0]; exact cfr.oI y1_ (by decide)
  have t2_ : (qN S6_0 (qO S6_0 16 1) : Int) = (qN S (qO S 16 1) : Int) := f1_.kL (j := 1) hw (hw.2.1 _ finC_27).2.1 (hw.ptr ptrC_4) (by decide) (by decide)
  have t3_ : (qN S6_0 (qO S6_0 16 2) : Int) = (qN S (qO S 16 2) : Int) := f1_.kL (j := 2) hw (hw.2.1 _ finC_27).2.1 (hw.ptr ptrC_5) (by decide) (by decide)
  have t4_ : (qI S6_0 16 5).toInt = (if (0 : Int32) < (if (24 : Int32) < (fX4_heightAt S 17 x1) then (24 : Int32) else (fX4_heightAt S 17 x1)) then (if (24 : Int32) < (fX4_heightAt S 17 x1) then (24 : Int32) else (fX4_heightAt S 17 x1)) else (0 : Int32)).toInt := by rw [eS6_0, qI_wI, if_pos ⟨rfl, rfl⟩]
  have g : ShC B S6_0 := ShC.ws hw g f1_ (by rw [eS6_0]; rfl) (by rw [eS6_0]; rfl) (by rw [eS6_0]; rfl) rfl rfl
  refine ⟨?_, ?_⟩
  · have s5_ : qN S6_0 24 = 48 := (y2_.2.1 _ finC_1).2.2
    refine acp_ok ?_
    have s6_ := y2_.len9 (y2_.ref (y2_.ptr ptrC_4) (y2_.2.1 _ finC_27).2.1) (by decide)
    have s7_ := y2_.len9 (y2_.ref (y2_.ptr ptrC_5) (y2_.2.1 _ finC_27).2.1) (by decide)
    have s8_ := g.chk
    unfold ChKk at s8_
    have n1_ := rgI (x1 * (48 : Int32))
    have n2_ := li_0k
    have n3_ := li_48k
    have n4_ := rgI x1
    have n5_ := rgI (qI S6_0 16 5)
    have n6_ := rgI (if (0 : Int32) < (if (24 : Int32) < (fX4_heightAt S 17 x1) then (24 : Int32) else (fX4_heightAt S 17 x1)) then (if (24 : Int32) < (fX4_heightAt S 17 x1) then (24 : Int32) else (fX4_heightAt S 17 x1)) else (0 : Int32))
    have n7q_ := t_mulR (a := x1) li_48k
    have n7w_ := rgI (x1 * (48 : Int32))
    omega
  intro S10_9 eS10_9 y3_ y4_
  have f10_ : cfr [103] [] S6_0 S10_9 := by rw [eS10_9]; exact cfr.aC y3_ (by decide)
  have t11_ : (qN S10_9 (qO S10_9 16 1) : Int) = (qN S6_0 (qO S6_0 16 1) : Int) := f10_.kL (j := 1) y2_ (y2_.2.1 _ finC_27).2.1 (y2_.ptr ptrC_4) (by decide) (by decide)
  have t12_ : (qN S10_9 (qO S10_9 16 2) : Int) = (qN S6_0 (qO S6_0 16 2) : Int) := f10_.kL (j := 2) y2_ (y2_.2.1 _ finC_27).2.1 (y2_.ptr ptrC_5) (by decide) (by decide)
  have g : ShC B S10_9 := ShC.ws y2_ g f10_ (by rw [eS10_9]; rfl) (by rw [eS10_9]; rfl) (by rw [eS10_9]; rfl) rfl rfl
  exact ⟨g, trivial⟩
set_option maxRecDepth 100000 in
theorem sg_X1_goThrough_L131 {B : Nat × Nat} : ∀ (n : Nat) {U131 : MS} {v131_1 : Int32} {v131_2 : Int32} {v131_3 : Int32} {v131_4 : Int32}, ShC B U131 → qR U131 16 8 = some (qO U131 16 8) → qR U131 16 9 = some (qO U131 16 9) → v131_4.toInt + 2147483649 < n → w_X1_goThrough_L131 (fun u => ShC B u ∧ (True)) n U131 v131_1 v131_2 v131_3 v131_4 := by
  intro n
  induction n with
  | zero => intro U131 v131_1 v131_2 v131_3 v131_4 g h0_ h1_ hm_; exfalso; have := rgI v131_1; have := rgI v131_2; have := rgI v131_3; have := rgI v131_4; omega
  | succ n ih131 =>
    intro U131 v131_1 v131_2 v131_3 v131_4 g h0_ h1_ hm_
    unfold w_X1_goThrough_L131
    intro y1_
    refine ⟨fun c0_ => ?_, fun c0_ => ?_⟩
    · refine ⟨?_, ?_⟩
      · exact h0_
      refine ⟨?_, ?_⟩
      · exact h1_
      refine ⟨?_, ?_⟩
      · exact (dd_X10_gives y1_ g (y1_.ref h0_ (y1_.2.1 _ finC_27).2.1) (y1_.ref h1_ (y1_.2.1 _ finC_27).2.1))
      intro a34_1 ea34_1 
      have ga34_1 := congrArg Int32.toInt ea34_1
      refine ⟨_, frX1_give y1_ (sfX1_give y1_ ), ?_⟩
      intro S36_2 q2_ y3_ y4_
      have o3_ : qO S36_2 16 8 = qO U131 16 8 := qO_eq (q2_.2.kO (y1_.2.1 _ finC_27).2.1 (by decide) (by decide))
      have t4_ : (qI S36_2 (qO S36_2 16 8) 8).toInt = (qI U131 (qO U131 16 8) 8).toInt := by rw [o3_]; exact congrArg Int32.toInt (q2_.2.kI (j := 8) (y1_.ref h0_ (y1_.2.1 _ finC_27).2.1) (by decide) (by decide))
      have t5_ : (qI S36_2 (qO S36_2 16 8) 4).toInt = (qI U131 (qO U131 16 8) 4).toInt := by rw [o3_]; exact congrArg Int32.toInt (q2_.2.kI (j := 4) (y1_.ref h0_ (y1_.2.1 _ finC_27).2.1) (by decide) (by decide))
      have t6_ : (qN S36_2 (qO S36_2 (qO S36_2 16 8) 13) : Int) = (qN U131 (qO U131 (qO U131 16 8) 13) : Int) := by rw [o3_]; exact q2_.2.kL (j := 13) y1_ (y1_.ref h0_ (y1_.2.1 _ finC_27).2.1) (g.unit (y1_.ref h0_ (y1_.2.1 _ finC_27).2.1)).1.2.2.2.2.2.2.2.2 (by decide) (by decide)
      have t7_ : (qN S36_2 (qO S36_2 (qO S36_2 16 8) 9) : Int) = (qN U131 (qO U131 (qO U131 16 8) 9) : Int) := by rw [o3_]; exact q2_.2.kL (j := 9) y1_ (y1_.ref h0_ (y1_.2.1 _ finC_27).2.1) (g.unit (y1_.ref h0_ (y1_.2.1 _ finC_27).2.1)).1.2.2.2.2.1 (by decide) (by decide)
      have t8_ : (qN S36_2 (qO S36_2 (qO S36_2 16 8) 5) : Int) = (qN U131 (qO U131 (qO U131 16 8) 5) : Int) := by rw [o3_]; exact q2_.2.kL (j := 5) y1_ (y1_.ref h0_ (y1_.2.1 _ finC_27).2.1) (g.unit (y1_.ref h0_ (y1_.2.1 _ finC_27).2.1)).1.2.1 (by decide) (by decide)
      have o9_ : qO S36_2 16 9 = qO U131 16 9 := qO_eq (q2_.2.kO (y1_.2.1 _ finC_27).2.1 (by decide) (by decide))
      have t10_ : (qI S36_2 (qO S36_2 16 9) 4).toInt = (qI U131 (qO U131 16 9) 4).toInt := by rw [o9_]; exact congrArg Int32.toInt (q2_.2.kI (j := 4) (y1_.ref h1_ (y1_.2.1 _ finC_27).2.1) (by decide) (by decide))
      have t11_ : (qI S36_2 (qO S36_2 16 9) 9).toInt = (qI U131 (qO U131 16 9) 9).toInt := by rw [o9_]; exact congrArg Int32.toInt (q2_.2.kI (j := 9) (y1_.ref h1_ (y1_.2.1 _ finC_27).2.1) (by decide) (by decide))
      have t12_ : (qI S36_2 (qO S36_2 16 9) 2).toInt = (qI U131 (qO U131 16 9) 2).toInt := by rw [o9_]; exact congrArg Int32.toInt (q2_.2.kI (j := 2) (y1_.ref h1_ (y1_.2.1 _ finC_27).2.1) (by decide) (by decide))
      have t13_ : (qN S36_2 (qO S36_2 (qO S36_2 16 9) 1) : Int) = (qN U131 (qO U131 (qO U131 16 9) 1) : Int) := by rw [o9_]; exact q2_.2.kL (j := 1) y1_ (y1_.ref h1_ (y1_.2.1 _ finC_27).2.1) (g.row (y1_.ref h1_ (y1_.2.1 _ finC_27).2.1)).1.2.1 (by decide) (by decide)
      have t14_ : (qN S36_2 (qO S36_2 (qO S36_2 16 9) 8) : Int) = (qN U131 (qO U131 (qO U131 16 9) 8) : Int) := by rw [o9_]; exact q2_.2.kL (j := 8) y1_ (y1_.ref h1_ (y1_.2.1 _ finC_27).2.1) (g.row (y1_.ref h1_ (y1_.2.1 _ finC_27).2.1)).1.2.2.2.2.2.2 (by decide) (by decide)
      have t15_ : (qN S36_2 (qO S36_2 (qO S36_2 16 9) 7) : Int) = (qN U131 (qO U131 (qO U131 16 9) 7) : Int) := by rw [o9_]; exact q2_.2.kL (j := 7) y1_ (y1_.ref h1_ (y1_.2.1 _ finC_27).2.1) (g.row (y1_.ref h1_ (y1_.2.1 _ finC_27).2.1)).1.2.2.2.2.2.1 (by decide) (by decide)
      have t16_ : (qN S36_2 (qO S36_2 (qO S36_2 16 9) 0) : Int) = (qN U131 (qO U131 (qO U131 16 9) 0) : Int) := by rw [o9_]; exact q2_.2.kL (j := 0) y1_ (y1_.ref h1_ (y1_.2.1 _ finC_27).2.1) (g.row (y1_.ref h1_ (y1_.2.1 _ finC_27).2.1)).1.1 (by decide) (by decide)
      have t17_ : (qN S36_2 (qO S36_2 (qO S36_2 16 9) 6) : Int) = (qN U131 (qO U131 (qO U131 16 9) 6) : Int) := by rw [o9_]; exact q2_.2.kL (j := 6) y1_ (y1_.ref h1_ (y1_.2.1 _ finC_27).2.1) (g.row (y1_.ref h1_ (y1_.2.1 _ finC_27).2.1)).1.2.2.2.2.1 (by decide) (by decide)
      have t18_ : (qN S36_2 (qO S36_2 (qO S36_2 16 9) 3) : Int) = (qN U131 (qO U131 (qO U131 16 9) 3) : Int) := by rw [o9_]; exact q2_.2.kL (j := 3) y1_ (y1_.ref h1_ (y1_.2.1 _ finC_27).2.1) (g.row (y1_.ref h1_ (y1_.2.1 _ finC_27).2.1)).1.2.2.1 (by decide) (by decide)
      have t19_ : (qN S36_2 (qO S36_2 (qO S36_2 16 9) 5) : Int) = (qN U131 (qO U131 (qO U131 16 9) 5) : Int) := by rw [o9_]; exact q2_.2.kL (j := 5) y1_ (y1_.ref h1_ (y1_.2.1 _ finC_27).2.1) (g.row (y1_.ref h1_ (y1_.2.1 _ finC_27).2.1)).1.2.2.2.1 (by decide) (by decide)
      have t20_ : (qI S36_2 16 6).toInt = (qI U131 16 6).toInt := congrArg Int32.toInt (q2_.2.kI (j := 6) (y1_.2.1 _ finC_27).2.1 (by decide) (by decide))
      have p21_ : qR S36_2 16 8 = some (qO S36_2 16 8) := q2_.2.kP (y1_.2.1 _ finC_27).2.1 h0_ (by decide) (by decide)
      have p22_ : qR S36_2 16 9 = some (qO S36_2 16 9) := q2_.2.kP (y1_.2.1 _ finC_27).2.1 h1_ (by decide) (by decide)
      have g : ShC B S36_2 := ShC.ca y1_ g q2_.2 y4_ y3_ rfl rfl
      refine ⟨fun c23_ => ?_, fun c23_ => ?_⟩
      · unfold w_X1_goThrough_J212
        intro y5_
        unfold w_X1_goThrough_J213
        intro y6_ y7_
        refine ⟨?_, ?_⟩
        · exact (bit_or (y6_.bit ((y6_.2.1 _ finC_27).2.1) (by decide)) (Or.inl rfl))
        intro S41_24 eS41_24 y8_ y9_
        have f25_ : cfr [] [(41, 6)] S36_2 S41_24 := by rw [eS41_24]; exact cfr.oI y8_ (by decide)
        have o26_ : qO S41_24 16 8 = qO S36_2 16 8 := qO_eq (f25_.kO (y6_.2.1 _ finC_27).2.1 (by decide) (by decide))
        have t27_ : (qI S41_24 (qO S41_24 16 8) 8).toInt = (qI S36_2 (qO S36_2 16 8) 8).toInt := by rw [o26_]; exact congrArg Int32.toInt (f25_.kI (j := 8) (y6_.ref p21_ (y6_.2.1 _ finC_27).2.1) (by decide) (by decide))
        have t28_ : (qI S41_24 (qO S41_24 16 8) 4).toInt = (qI S36_2 (qO S36_2 16 8) 4).toInt := by rw [o26_]; exact congrArg Int32.toInt (f25_.kI (j := 4) (y6_.ref p21_ (y6_.2.1 _ finC_27).2.1) (by decide) (by decide))
        have t29_ : (qN S41_24 (qO S41_24 (qO S41_24 16 8) 13) : Int) = (qN S36_2 (qO S36_2 (qO S36_2 16 8) 13) : Int) := by rw [o26_]; exact f25_.kL (j := 13) y6_ (y6_.ref p21_ (y6_.2.1 _ finC_27).2.1) (g.unit (y6_.ref p21_ (y6_.2.1 _ finC_27).2.1)).1.2.2.2.2.2.2.2.2 (by decide) (by decide)
        have t30_ : (qN S41_24 (qO S41_24 (qO S41_24 16 8) 9) : Int) = (qN S36_2 (qO S36_2 (qO S36_2 16 8) 9) : Int) := by rw [o26_]; exact f25_.kL (j := 9) y6_ (y6_.ref p21_ (y6_.2.1 _ finC_27).2.1) (g.unit (y6_.ref p21_ (y6_.2.1 _ finC_27).2.1)).1.2.2.2.2.1 (by decide) (by decide)
        have t31_ : (qN S41_24 (qO S41_24 (qO S41_24 16 8) 5) : Int) = (qN S36_2 (qO S36_2 (qO S36_2 16 8) 5) : Int) := by rw [o26_]; exact f25_.kL (j := 5) y6_ (y6_.ref p21_ (y6_.2.1 _ finC_27).2.1) (g.unit (y6_.ref p21_ (y6_.2.1 _ finC_27).2.1)).1.2.1 (by decide) (by decide)
        have o32_ : qO S41_24 16 9 = qO S36_2 16 9 := qO_eq (f25_.kO (y6_.2.1 _ finC_27).2.1 (by decide) (by decide))
        have t33_ : (qI S41_24 (qO S41_24 16 9) 4).toInt = (qI S36_2 (qO S36_2 16 9) 4).toInt := by rw [o32_]; exact congrArg Int32.toInt (f25_.kI (j := 4) (y6_.ref p22_ (y6_.2.1 _ finC_27).2.1) (by decide) (by decide))
        have t34_ : (qI S41_24 (qO S41_24 16 9) 9).toInt = (qI S36_2 (qO S36_2 16 9) 9).toInt := by rw [o32_]; exact congrArg Int32.toInt (f25_.kI (j := 9) (y6_.ref p22_ (y6_.2.1 _ finC_27).2.1) (by decide) (by decide))
        have t35_ : (qI S41_24 (qO S41_24 16 9) 2).toInt = (qI S36_2 (qO S36_2 16 9) 2).toInt := by rw [o32_]; exact congrArg Int32.toInt (f25_.kI (j := 2) (y6_.ref p22_ (y6_.2.1 _ finC_27).2.1) (by decide) (by decide))
        have t36_ : (qN S41_24 (qO S41_24 (qO S41_24 16 9) 1) : Int) = (qN S36_2 (qO S36_2 (qO S36_2 16 9) 1) : Int) := by rw [o32_]; exact f25_.kL (j := 1) y6_ (y6_.ref p22_ (y6_.2.1 _ finC_27).2.1) (g.row (y6_.ref p22_ (y6_.2.1 _ finC_27).2.1)).1.2.1 (by decide) (by decide)
        have t37_ : (qN S41_24 (qO S41_24 (qO S41_24 16 9) 8) : Int) = (qN S36_2 (qO S36_2 (qO S36_2 16 9) 8) : Int) := by rw [o32_]; exact f25_.kL (j := 8) y6_ (y6_.ref p22_ (y6_.2.1 _ finC_27).2.1) (g.row (y6_.ref p22_ (y6_.2.1 _ finC_27).2.1)).1.2.2.2.2.2.2 (by decide) (by decide)
        have t38_ : (qN S41_24 (qO S41_24 (qO S41_24 16 9) 7) : Int) = (qN S36_2 (qO S36_2 (qO S36_2 16 9) 7) : Int) := by rw [o32_]; exact f25_.kL (j := 7) y6_ (y6_.ref p22_ (y6_.2.1 _ finC_27).2.1) (g.row (y6_.ref p22_ (y6_.2.1 _ finC_27).2.1)).1.2.2.2.2.2.1 (by decide) (by decide)
        have t39_ : (qN S41_24 (qO S41_24 (qO S41_24 16 9) 0) : Int) = (qN S36_2 (qO S36_2 (qO S36_2 16 9) 0) : Int) := by rw [o32_]; exact f25_.kL (j := 0) y6_ (y6_.ref p22_ (y6_.2.1 _ finC_27).2.1) (g.row (y6_.ref p22_ (y6_.2.1 _ finC_27).2.1)).1.1 (by decide) (by decide)
        have t40_ : (qN S41_24 (qO S41_24 (qO S41_24 16 9) 6) : Int) = (qN S36_2 (qO S36_2 (qO S36_2 16 9) 6) : Int) := by rw [o32_]; exact f25_.kL (j := 6) y6_ (y6_.ref p22_ (y6_.2.1 _ finC_27).2.1) (g.row (y6_.ref p22_ (y6_.2.1 _ finC_27).2.1)).1.2.2.2.2.1 (by decide) (by decide)
        have t41_ : (qN S41_24 (qO S41_24 (qO S41_24 16 9) 3) : Int) = (qN S36_2 (qO S36_2 (qO S36_2 16 9) 3) : Int) := by rw [o32_]; exact f25_.kL (j := 3) y6_ (y6_.ref p22_ (y6_.2.1 _ finC_27).2.1) (g.row (y6_.ref p22_ (y6_.2.1 _ finC_27).2.1)).1.2.2.1 (by decide) (by decide)
        have t42_ : (qN S41_24 (qO S41_24 (qO S41_24 16 9) 5) : Int) = (qN S36_2 (qO S36_2 (qO S36_2 16 9) 5) : Int) := by rw [o32_]; exact f25_.kL (j := 5) y6_ (y6_.ref p22_ (y6_.2.1 _ finC_27).2.1) (g.row (y6_.ref p22_ (y6_.2.1 _ finC_27).2.1)).1.2.2.2.1 (by decide) (by decide)
        have p43_ : qR S41_24 16 8 = some (qO S41_24 16 8) := f25_.kP (y6_.2.1 _ finC_27).2.1 p21_ (by decide) (by decide)
        have p44_ : qR S41_24 16 9 = some (qO S41_24 16 9) := f25_.kP (y6_.2.1 _ finC_27).2.1 p22_ (by decide) (by decide)
        have t45_ : (qI S41_24 16 6).toInt = ((qI S36_2 16 6) ||| (0 : Int32)).toInt := by rw [eS41_24, qI_wI, if_pos ⟨rfl, rfl⟩]
        have g : ShC B S41_24 := ShC.ws y6_ g f25_ (by rw [eS41_24]; rfl) (by rw [eS41_24]; rfl) (by rw [eS41_24]; rfl) rfl rfl
        exact ⟨g, trivial⟩
      · refine ⟨fun c46_ => ?_, fun c46_ => ?_⟩
        · unfold w_X1_goThrough_J212
          intro y10_
          unfold w_X1_goThrough_J213
          intro y11_ y12_
          refine ⟨?_, ?_⟩
          · exact (bit_or (y11_.bit ((y11_.2.1 _ finC_27).2.1) (by decide)) (Or.inl rfl))
          intro S41_47 eS41_47 y13_ y14_
          have f48_ : cfr [] [(41, 6)] S36_2 S41_47 := by rw [eS41_47]; exact cfr.oI y13_ (by decide)
          have o49_ : qO S41_47 16 8 = qO S36_2 16 8 := qO_eq (f48_.kO (y11_.2.1 _ finC_27).2.1 (by decide) (by decide))
          have t50_ : (qI S41_47 (qO S41_47 16 8) 8).toInt = (qI S36_2 (qO S36_2 16 8) 8).toInt := by rw [o49_]; exact congrArg Int32.toInt (f48_.kI (j := 8) (y11_.ref p21_ (y11_.2.1 _ finC_27).2.1) (by decide) (by decide))
          have t51_ : (qI S41_47 (qO S41_47 16 8) 4).toInt = (qI S36_2 (qO S36_2 16 8) 4).toInt := by rw [o49_]; exact congrArg Int32.toInt (f48_.kI (j := 4) (y11_.ref p21_ (y11_.2.1 _ finC_27).2.1) (by decide) (by decide))
          have t52_ : (qN S41_47 (qO S41_47 (qO S41_47 16 8) 13) : Int) = (qN S36_2 (qO S36_2 (qO S36_2 16 8) 13) : Int) := by rw [o49_]; exact f48_.kL (j := 13) y11_ (y11_.ref p21_ (y11_.2.1 _ finC_27).2.1) (g.unit (y11_.ref p21_ (y11_.2.1 _ finC_27).2.1)).1.2.2.2.2.2.2.2.2 (by decide) (by decide)
          have t53_ : (qN S41_47 (qO S41_47 (qO S41_47 16 8) 9) : Int) = (qN S36_2 (qO S36_2 (qO S36_2 16 8) 9) : Int) := by rw [o49_]; exact f48_.kL (j := 9) y11_ (y11_.ref p21_ (y11_.2.1 _ finC_27).2.1) (g.unit (y11_.ref p21_ (y11_.2.1 _ finC_27).2.1)).1.2.2.2.2.1 (by decide) (by decide)
          have t54_ : (qN S41_47 (qO S41_47 (qO S41_47 16 8) 5) : Int) = (qN S36_2 (qO S36_2 (qO S36_2 16 8) 5) : Int) := by rw [o49_]; exact f48_.kL (j := 5) y11_ (y11_.ref p21_ (y11_.2.1 _ finC_27).2.1) (g.unit (y11_.ref p21_ (y11_.2.1 _ finC_27).2.1)).1.2.1 (by decide) (by decide)
          have o55_ : qO S41_47 16 9 = qO S36_2 16 9 := qO_eq (f48_.kO (y11_.2.1 _ finC_27).2.1 (by decide) (by decide))
          have t56_ : (qI S41_47 (qO S41_47 16 9) 4).toInt = (qI S36_2 (qO S36_2 16 9) 4).toInt := by rw [o55_]; exact congrArg Int32.toInt (f48_.kI (j := 4) (y11_.ref p22_ (y11_.2.1 _ finC_27).2.1) (by decide) (by decide))
          have t57_ : (qI S41_47 (qO S41_47 16 9) 9).toInt = (qI S36_2 (qO S36_2 16 9) 9).toInt := by rw [o55_]; exact congrArg Int32.toInt (f48_.kI (j := 9) (y11_.ref p22_ (y11_.2.1 _ finC_27).2.1) (by decide) (by decide))
          have t58_ : (qI S41_47 (qO S41_47 16 9) 2).toInt = (qI S36_2 (qO S36_2 16 9) 2).toInt := by rw [o55_]; exact congrArg Int32.toInt (f48_.kI (j := 2) (y11_.ref p22_ (y11_.2.1 _ finC_27).2.1) (by decide) (by decide))
          have t59_ : (qN S41_47 (qO S41_47 (qO S41_47 16 9) 1) : Int) = (qN S36_2 (qO S36_2 (qO S36_2 16 9) 1) : Int) := by rw [o55_]; exact f48_.kL (j := 1) y11_ (y11_.ref p22_ (y11_.2.1 _ finC_27).2.1) (g.row (y11_.ref p22_ (y11_.2.1 _ finC_27).2.1)).1.2.1 (by decide) (by decide)
          have t60_ : (qN S41_47 (qO S41_47 (qO S41_47 16 9) 8) : Int) = (qN S36_2 (qO S36_2 (qO S36_2 16 9) 8) : Int) := by rw [o55_]; exact f48_.kL (j := 8) y11_ (y11_.ref p22_ (y11_.2.1 _ finC_27).2.1) (g.row (y11_.ref p22_ (y11_.2.1 _ finC_27).2.1)).1.2.2.2.2.2.2 (by decide) (by decide)
          have t61_ : (qN S41_47 (qO S41_47 (qO S41_47 16 9) 7) : Int) = (qN S36_2 (qO S36_2 (qO S36_2 16 9) 7) : Int) := by rw [o55_]; exact f48_.kL (j := 7) y11_ (y11_.ref p22_ (y11_.2.1 _ finC_27).2.1) (g.row (y11_.ref p22_ (y11_.2.1 _ finC_27).2.1)).1.2.2.2.2.2.1 (by decide) (by decide)
          have t62_ : (qN S41_47 (qO S41_47 (qO S41_47 16 9) 0) : Int) = (qN S36_2 (qO S36_2 (qO S36_2 16 9) 0) : Int) := by rw [o55_]; exact f48_.kL (j := 0) y11_ (y11_.ref p22_ (y11_.2.1 _ finC_27).2.1) (g.row (y11_.ref p22_ (y11_.2.1 _ finC_27).2.1)).1.1 (by decide) (by decide)
          have t63_ : (qN S41_47 (qO S41_47 (qO S41_47 16 9) 6) : Int) = (qN S36_2 (qO S36_2 (qO S36_2 16 9) 6) : Int) := by rw [o55_]; exact f48_.kL (j := 6) y11_ (y11_.ref p22_ (y11_.2.1 _ finC_27).2.1) (g.row (y11_.ref p22_ (y11_.2.1 _ finC_27).2.1)).1.2.2.2.2.1 (by decide) (by decide)
          have t64_ : (qN S41_47 (qO S41_47 (qO S41_47 16 9) 3) : Int) = (qN S36_2 (qO S36_2 (qO S36_2 16 9) 3) : Int) := by rw [o55_]; exact f48_.kL (j := 3) y11_ (y11_.ref p22_ (y11_.2.1 _ finC_27).2.1) (g.row (y11_.ref p22_ (y11_.2.1 _ finC_27).2.1)).1.2.2.1 (by decide) (by decide)
          have t65_ : (qN S41_47 (qO S41_47 (qO S41_47 16 9) 5) : Int) = (qN S36_2 (qO S36_2 (qO S36_2 16 9) 5) : Int) := by rw [o55_]; exact f48_.kL (j := 5) y11_ (y11_.ref p22_ (y11_.2.1 _ finC_27).2.1) (g.row (y11_.ref p22_ (y11_.2.1 _ finC_27).2.1)).1.2.2.2.1 (by decide) (by decide)
          have p66_ : qR S41_47 16 8 = some (qO S41_47 16 8) := f48_.kP (y11_.2.1 _ finC_27).2.1 p21_ (by decide) (by decide)
          have p67_ : qR S41_47 16 9 = some (qO S41_47 16 9) := f48_.kP (y11_.2.1 _ finC_27).2.1 p22_ (by decide) (by decide)
          have t68_ : (qI S41_47 16 6).toInt = ((qI S36_2 16 6) ||| (0 : Int32)).toInt := by rw [eS41_47, qI_wI, if_pos ⟨rfl, rfl⟩]
          have g : ShC B S41_47 := ShC.ws y11_ g f48_ (by rw [eS41_47]; rfl) (by rw [eS41_47]; rfl) (by rw [eS41_47]; rfl) rfl rfl
          exact ⟨g, trivial⟩
        · refine ⟨?_, ?_⟩
          · exact p21_
          refine ⟨?_, ?_⟩
          · exact p22_
          refine ⟨?_, ?_⟩
          · exact (dd_X10_givesOfMethod y3_ g (y3_.ref p21_ (y3_.2.1 _ finC_27).2.1))
          intro a51_69 ea51_69 
          have ga51_69 := congrArg Int32.toInt ea51_69
          refine ⟨fun c70_ => ?_, fun c70_ => ?_⟩
          · unfold w_X1_goThrough_J212
            intro y15_
            unfold w_X1_goThrough_J213
            intro y16_ y17_
            refine ⟨?_, ?_⟩
            · exact (bit_or (y16_.bit ((y16_.2.1 _ finC_27).2.1) (by decide)) (Or.inl rfl))
            intro S41_71 eS41_71 y18_ y19_
            have f72_ : cfr [] [(41, 6)] S36_2 S41_71 := by rw [eS41_71]; exact cfr.oI y18_ (by decide)
            have o73_ : qO S41_71 16 8 = qO S36_2 16 8 := qO_eq (f72_.kO (y16_.2.1 _ finC_27).2.1 (by decide) (by decide))
            have t74_ : (qI S41_71 (qO S41_71 16 8) 8).toInt = (qI S36_2 (qO S36_2 16 8) 8).toInt := by rw [o73_]; exact congrArg Int32.toInt (f72_.kI (j := 8) (y16_.ref p21_ (y16_.2.1 _ finC_27).2.1) (by decide) (by decide))
            have t75_ : (qI S41_71 (qO S41_71 16 8) 4).toInt = (qI S36_2 (qO S36_2 16 8) 4).toInt := by rw [o73_]; exact congrArg Int32.toInt (f72_.kI (j := 4) (y16_.ref p21_ (y16_.2.1 _ finC_27).2.1) (by decide) (by decide))
            have t76_ : (qN S41_71 (qO S41_71 (qO S41_71 16 8) 13) : Int) = (qN S36_2 (qO S36_2 (qO S36_2 16 8) 13) : Int) := by rw [o73_]; exact f72_.kL (j := 13) y16_ (y16_.ref p21_ (y16_.2.1 _ finC_27).2.1) (g.unit (y16_.ref p21_ (y16_.2.1 _ finC_27).2.1)).1.2.2.2.2.2.2.2.2 (by decide) (by decide)
            have t77_ : (qN S41_71 (qO S41_71 (qO S41_71 16 8) 9) : Int) = (qN S36_2 (qO S36_2 (qO S36_2 16 8) 9) : Int) := by rw [o73_]; exact f72_.kL (j := 9) y16_ (y16_.ref p21_ (y16_.2.1 _ finC_27).2.1) (g.unit (y16_.ref p21_ (y16_.2.1 _ finC_27).2.1)).1.2.2.2.2.1 (by decide) (by decide)
            have t78_ : (qN S41_71 (qO S41_71 (qO S41_71 16 8) 5) : Int) = (qN S36_2 (qO S36_2 (qO S36_2 16 8) 5) : Int) := by rw [o73_]; exact f72_.kL (j := 5) y16_ (y16_.ref p21_ (y16_.2.1 _ finC_27).2.1) (g.unit (y16_.ref p21_ (y16_.2.1 _ finC_27).2.1)).1.2.1 (by decide) (by decide)
            have o79_ : qO S41_71 16 9 = qO S36_2 16 9 := qO_eq (f72_.kO (y16_.2.1 _ finC_27).2.1 (by decide) (by decide))
            have t80_ : (qI S41_71 (qO S41_71 16 9) 4).toInt = (qI S36_2 (qO S36_2 16 9) 4).toInt := by rw [o79_]; exact congrArg Int32.toInt (f72_.kI (j := 4) (y16_.ref p22_ (y16_.2.1 _ finC_27).2.1) (by decide) (by decide))
            have t81_ : (qI S41_71 (qO S41_71 16 9) 9).toInt = (qI S36_2 (qO S36_2 16 9) 9).toInt := by rw [o79_]; exact congrArg Int32.toInt (f72_.kI (j := 9) (y16_.ref p22_ (y16_.2.1 _ finC_27).2.1) (by decide) (by decide))
            have t82_ : (qI S41_71 (qO S41_71 16 9) 2).toInt = (qI S36_2 (qO S36_2 16 9) 2).toInt := by rw [o79_]; exact congrArg Int32.toInt (f72_.kI (j := 2) (y16_.ref p22_ (y16_.2.1 _ finC_27).2.1) (by decide) (by decide))
            have t83_ : (qN S41_71 (qO S41_71 (qO S41_71 16 9) 1) : Int) = (qN S36_2 (qO S36_2 (qO S36_2 16 9) 1) : Int) := by rw [o79_]; exact f72_.kL (j := 1) y16_ (y16_.ref p22_ (y16_.2.1 _ finC_27).2.1) (g.row (y16_.ref p22_ (y16_.2.1 _ finC_27).2.1)).1.2.1 (by decide) (by decide)
            have t84_ : (qN S41_71 (qO S41_71 (qO S41_71 16 9) 8) : Int) = (qN S36_2 (qO S36_2 (qO S36_2 16 9) 8) : Int) := by rw [o79_]; exact f72_.kL (j := 8) y16_ (y16_.ref p22_ (y16_.2.1 _ finC_27).2.1) (g.row (y16_.ref p22_ (y16_.2.1 _ finC_27).2.1)).1.2.2.2.2.2.2 (by decide) (by decide)
            have t85_ : (qN S41_71 (qO S41_71 (qO S41_71 16 9) 7) : Int) = (qN S36_2 (qO S36_2 (qO S36_2 16 9) 7) : Int) := by rw [o79_]; exact f72_.kL (j := 7) y16_ (y16_.ref p22_ (y16_.2.1 _ finC_27).2.1) (g.row (y16_.ref p22_ (y16_.2.1 _ finC_27).2.1)).1.2.2.2.2.2.1 (by decide) (by decide)
            have t86_ : (qN S41_71 (qO S41_71 (qO S41_71 16 9) 0) : Int) = (qN S36_2 (qO S36_2 (qO S36_2 16 9) 0) : Int) := by rw [o79_]; exact f72_.kL (j := 0) y16_ (y16_.ref p22_ (y16_.2.1 _ finC_27).2.1) (g.row (y16_.ref p22_ (y16_.2.1 _ finC_27).2.1)).1.1 (by decide) (by decide)
            have t87_ : (qN S41_71 (qO S41_71 (qO S41_71 16 9) 6) : Int) = (qN S36_2 (qO S36_2 (qO S36_2 16 9) 6) : Int) := by rw [o79_]; exact f72_.kL (j := 6) y16_ (y16_.ref p22_ (y16_.2.1 _ finC_27).2.1) (g.row (y16_.ref p22_ (y16_.2.1 _ finC_27).2.1)).1.2.2.2.2.1 (by decide) (by decide)
            have t88_ : (qN S41_71 (qO S41_71 (qO S41_71 16 9) 3) : Int) = (qN S36_2 (qO S36_2 (qO S36_2 16 9) 3) : Int) := by rw [o79_]; exact f72_.kL (j := 3) y16_ (y16_.ref p22_ (y16_.2.1 _ finC_27).2.1) (g.row (y16_.ref p22_ (y16_.2.1 _ finC_27).2.1)).1.2.2.1 (by decide) (by decide)
            have t89_ : (qN S41_71 (qO S41_71 (qO S41_71 16 9) 5) : Int) = (qN S36_2 (qO S36_2 (qO S36_2 16 9) 5) : Int) := by rw [o79_]; exact f72_.kL (j := 5) y16_ (y16_.ref p22_ (y16_.2.1 _ finC_27).2.1) (g.row (y16_.ref p22_ (y16_.2.1 _ finC_27).2.1)).1.2.2.2.1 (by decide) (by decide)
            have p90_ : qR S41_71 16 8 = some (qO S41_71 16 8) := f72_.kP (y16_.2.1 _ finC_27).2.1 p21_ (by decide) (by decide)
            have p91_ : qR S41_71 16 9 = some (qO S41_71 16 9) := f72_.kP (y16_.2.1 _ finC_27).2.1 p22_ (by decide) (by decide)
            have t92_ : (qI S41_71 16 6).toInt = ((qI S36_2 16 6) ||| (0 : Int32)).toInt := by rw [eS41_71, qI_wI, if_pos ⟨rfl, rfl⟩]
            have g : ShC B S41_71 := ShC.ws y16_ g f72_ (by rw [eS41_71]; rfl) (by rw [eS41_71]; rfl) (by rw [eS41_71]; rfl) rfl rfl
            exact ⟨g, trivial⟩
          · unfold w_X1_goThrough_J213
            intro y20_ y21_
            refine ⟨?_, ?_⟩
            · exact (bit_or (y20_.bit ((y20_.2.1 _ finC_27).2.1) (by decide)) (Or.inr rfl))
            intro S41_93 eS41_93 y22_ y23_
            have f94_ : cfr [] [(41, 6)] S36_2 S41_93 := by rw [eS41_93]; exact cfr.oI y22_ (by decide)
            have o95_ : qO S41_93 16 8 = qO S36_2 16 8 := qO_eq (f94_.kO (y20_.2.1 _ finC_27).2.1 (by decide) (by decide))
            have t96_ : (qI S41_93 (qO S41_93 16 8) 8).toInt = (qI S36_2 (qO S36_2 16 8) 8).toInt := by rw [o95_]; exact congrArg Int32.toInt (f94_.kI (j := 8) (y20_.ref p21_ (y20_.2.1 _ finC_27).2.1) (by decide) (by decide))
            have t97_ : (qI S41_93 (qO S41_93 16 8) 4).toInt = (qI S36_2 (qO S36_2 16 8) 4).toInt := by rw [o95_]; exact congrArg Int32.toInt (f94_.kI (j := 4) (y20_.ref p21_ (y20_.2.1 _ finC_27).2.1) (by decide) (by decide))
            have t98_ : (qN S41_93 (qO S41_93 (qO S41_93 16 8) 13) : Int) = (qN S36_2 (qO S36_2 (qO S36_2 16 8) 13) : Int) := by rw [o95_]; exact f94_.kL (j := 13) y20_ (y20_.ref p21_ (y20_.2.1 _ finC_27).2.1) (g.unit (y20_.ref p21_ (y20_.2.1 _ finC_27).2.1)).1.2.2.2.2.2.2.2.2 (by decide) (by decide)
            have t99_ : (qN S41_93 (qO S41_93 (qO S41_93 16 8) 9) : Int) = (qN S36_2 (qO S36_2 (qO S36_2 16 8) 9) : Int) := by rw [o95_]; exact f94_.kL (j := 9) y20_ (y20_.ref p21_ (y20_.2.1 _ finC_27).2.1) (g.unit (y20_.ref p21_ (y20_.2.1 _ finC_27).2.1)).1.2.2.2.2.1 (by decide) (by decide)
            have t100_ : (qN S41_93 (qO S41_93 (qO S41_93 16 8) 5) : Int) = (qN S36_2 (qO S36_2 (qO S36_2 16 8) 5) : Int) := by rw [o95_]; exact f94_.kL (j := 5) y20_ (y20_.ref p21_ (y20_.2.1 _ finC_27).2.1) (g.unit (y20_.ref p21_ (y20_.2.1 _ finC_27).2.1)).1.2.1 (by decide) (by decide)
            have o101_ : qO S41_93 16 9 = qO S36_2 16 9 := qO_eq (f94_.kO (y20_.2.1 _ finC_27).2.1 (by decide) (by decide))
            have t102_ : (qI S41_93 (qO S41_93 16 9) 4).toInt = (qI S36_2 (qO S36_2 16 9) 4).toInt := by rw [o101_]; exact congrArg Int32.toInt (f94_.kI (j := 4) (y20_.ref p22_ (y20_.2.1 _ finC_27).2.1) (by decide) (by decide))
            have t103_ : (qI S41_93 (qO S41_93 16 9) 9).toInt = (qI S36_2 (qO S36_2 16 9) 9).toInt := by rw [o101_]; exact congrArg Int32.toInt (f94_.kI (j := 9) (y20_.ref p22_ (y20_.2.1 _ finC_27).2.1) (by decide) (by decide))
            have t104_ : (qI S41_93 (qO S41_93 16 9) 2).toInt = (qI S36_2 (qO S36_2 16 9) 2).toInt := by rw [o101_]; exact congrArg Int32.toInt (f94_.kI (j := 2) (y20_.ref p22_ (y20_.2.1 _ finC_27).2.1) (by decide) (by decide))
            have t105_ : (qN S41_93 (qO S41_93 (qO S41_93 16 9) 1) : Int) = (qN S36_2 (qO S36_2 (qO S36_2 16 9) 1) : Int) := by rw [o101_]; exact f94_.kL (j := 1) y20_ (y20_.ref p22_ (y20_.2.1 _ finC_27).2.1) (g.row (y20_.ref p22_ (y20_.2.1 _ finC_27).2.1)).1.2.1 (by decide) (by decide)
            have t106_ : (qN S41_93 (qO S41_93 (qO S41_93 16 9) 8) : Int) = (qN S36_2 (qO S36_2 (qO S36_2 16 9) 8) : Int) := by rw [o101_]; exact f94_.kL (j := 8) y20_ (y20_.ref p22_ (y20_.2.1 _ finC_27).2.1) (g.row (y20_.ref p22_ (y20_.2.1 _ finC_27).2.1)).1.2.2.2.2.2.2 (by decide) (by decide)
            have t107_ : (qN S41_93 (qO S41_93 (qO S41_93 16 9) 7) : Int) = (qN S36_2 (qO S36_2 (qO S36_2 16 9) 7) : Int) := by rw [o101_]; exact f94_.kL (j := 7) y20_ (y20_.ref p22_ (y20_.2.1 _ finC_27).2.1) (g.row (y20_.ref p22_ (y20_.2.1 _ finC_27).2.1)).1.2.2.2.2.2.1 (by decide) (by decide)
            have t108_ : (qN S41_93 (qO S41_93 (qO S41_93 16 9) 0) : Int) = (qN S36_2 (qO S36_2 (qO S36_2 16 9) 0) : Int) := by rw [o101_]; exact f94_.kL (j := 0) y20_ (y20_.ref p22_ (y20_.2.1 _ finC_27).2.1) (g.row (y20_.ref p22_ (y20_.2.1 _ finC_27).2.1)).1.1 (by decide) (by decide)
            have t109_ : (qN S41_93 (qO S41_93 (qO S41_93 16 9) 6) : Int) = (qN S36_2 (qO S36_2 (qO S36_2 16 9) 6) : Int) := by rw [o101_]; exact f94_.kL (j := 6) y20_ (y20_.ref p22_ (y20_.2.1 _ finC_27).2.1) (g.row (y20_.ref p22_ (y20_.2.1 _ finC_27).2.1)).1.2.2.2.2.1 (by decide) (by decide)
            have t110_ : (qN S41_93 (qO S41_93 (qO S41_93 16 9) 3) : Int) = (qN S36_2 (qO S36_2 (qO S36_2 16 9) 3) : Int) := by rw [o101_]; exact f94_.kL (j := 3) y20_ (y20_.ref p22_ (y20_.2.1 _ finC_27).2.1) (g.row (y20_.ref p22_ (y20_.2.1 _ finC_27).2.1)).1.2.2.1 (by decide) (by decide)
            have t111_ : (qN S41_93 (qO S41_93 (qO S41_93 16 9) 5) : Int) = (qN S36_2 (qO S36_2 (qO S36_2 16 9) 5) : Int) := by rw [o101_]; exact f94_.kL (j := 5) y20_ (y20_.ref p22_ (y20_.2.1 _ finC_27).2.1) (g.row (y20_.ref p22_ (y20_.2.1 _ finC_27).2.1)).1.2.2.2.1 (by decide) (by decide)
            have p112_ : qR S41_93 16 8 = some (qO S41_93 16 8) := f94_.kP (y20_.2.1 _ finC_27).2.1 p21_ (by decide) (by decide)
            have p113_ : qR S41_93 16 9 = some (qO S41_93 16 9) := f94_.kP (y20_.2.1 _ finC_27).2.1 p22_ (by decide) (by decide)
            have t114_ : (qI S41_93 16 6).toInt = ((qI S36_2 16 6) ||| (1 : Int32)).toInt := by rw [eS41_93, qI_wI, if_pos ⟨rfl, rfl⟩]
            have g : ShC B S41_93 := ShC.ws y20_ g f94_ (by rw [eS41_93]; rfl) (by rw [eS41_93]; rfl) (by rw [eS41_93]; rfl) rfl rfl
            exact ⟨g, trivial⟩
    · refine ⟨_, frX1_take y1_ (sfX1_take y1_ ), ?_⟩
      intro r55_115 S56_115 q24_ y25_ y26_
      have o116_ : qO S56_115 16 8 = qO U131 16 8 := qO_eq (q24_.2.kO (y1_.2.1 _ finC_27).2.1 (by decide) (by decide))
      have t117_ : (qI S56_115 (qO S56_115 16 8) 8).toInt = (qI U131 (qO U131 16 8) 8).toInt := by rw [o116_]; exact congrArg Int32.toInt (q24_.2.kI (j := 8) (y1_.ref h0_ (y1_.2.1 _ finC_27).2.1) (by decide) (by decide))
      have t118_ : (qI S56_115 (qO S56_115 16 8) 4).toInt = (qI U131 (qO U131 16 8) 4).toInt := by rw [o116_]; exact congrArg Int32.toInt (q24_.2.kI (j := 4) (y1_.ref h0_ (y1_.2.1 _ finC_27).2.1) (by decide) (by decide))
      have t119_ : (qN S56_115 (qO S56_115 (qO S56_115 16 8) 13) : Int) = (qN U131 (qO U131 (qO U131 16 8) 13) : Int) := by rw [o116_]; exact q24_.2.kL (j := 13) y1_ (y1_.ref h0_ (y1_.2.1 _ finC_27).2.1) (g.unit (y1_.ref h0_ (y1_.2.1 _ finC_27).2.1)).1.2.2.2.2.2.2.2.2 (by decide) (by decide)
      have t120_ : (qN S56_115 (qO S56_115 (qO S56_115 16 8) 9) : Int) = (qN U131 (qO U131 (qO U131 16 8) 9) : Int) := by rw [o116_]; exact q24_.2.kL (j := 9) y1_ (y1_.ref h0_ (y1_.2.1 _ finC_27).2.1) (g.unit (y1_.ref h0_ (y1_.2.1 _ finC_27).2.1)).1.2.2.2.2.1 (by decide) (by decide)
      have t121_ : (qN S56_115 (qO S56_115 (qO S56_115 16 8) 5) : Int) = (qN U131 (qO U131 (qO U131 16 8) 5) : Int) := by rw [o116_]; exact q24_.2.kL (j := 5) y1_ (y1_.ref h0_ (y1_.2.1 _ finC_27).2.1) (g.unit (y1_.ref h0_ (y1_.2.1 _ finC_27).2.1)).1.2.1 (by decide) (by decide)
      have o122_ : qO S56_115 16 9 = qO U131 16 9 := qO_eq (q24_.2.kO (y1_.2.1 _ finC_27).2.1 (by decide) (by decide))
      have t123_ : (qI S56_115 (qO S56_115 16 9) 4).toInt = (qI U131 (qO U131 16 9) 4).toInt := by rw [o122_]; exact congrArg Int32.toInt (q24_.2.kI (j := 4) (y1_.ref h1_ (y1_.2.1 _ finC_27).2.1) (by decide) (by decide))
      have t124_ : (qI S56_115 (qO S56_115 16 9) 9).toInt = (qI U131 (qO U131 16 9) 9).toInt := by rw [o122_]; exact congrArg Int32.toInt (q24_.2.kI (j := 9) (y1_.ref h1_ (y1_.2.1 _ finC_27).2.1) (by decide) (by decide))
      have t125_ : (qI S56_115 (qO S56_115 16 9) 2).toInt = (qI U131 (qO U131 16 9) 2).toInt := by rw [o122_]; exact congrArg Int32.toInt (q24_.2.kI (j := 2) (y1_.ref h1_ (y1_.2.1 _ finC_27).2.1) (by decide) (by decide))
      have t126_ : (qN S56_115 (qO S56_115 (qO S56_115 16 9) 1) : Int) = (qN U131 (qO U131 (qO U131 16 9) 1) : Int) := by rw [o122_]; exact q24_.2.kL (j := 1) y1_ (y1_.ref h1_ (y1_.2.1 _ finC_27).2.1) (g.row (y1_.ref h1_ (y1_.2.1 _ finC_27).2.1)).1.2.1 (by decide) (by decide)
      have t127_ : (qN S56_115 (qO S56_115 (qO S56_115 16 9) 8) : Int) = (qN U131 (qO U131 (qO U131 16 9) 8) : Int) := by rw [o122_]; exact q24_.2.kL (j := 8) y1_ (y1_.ref h1_ (y1_.2.1 _ finC_27).2.1) (g.row (y1_.ref h1_ (y1_.2.1 _ finC_27).2.1)).1.2.2.2.2.2.2 (by decide) (by decide)
      have t128_ : (qN S56_115 (qO S56_115 (qO S56_115 16 9) 7) : Int) = (qN U131 (qO U131 (qO U131 16 9) 7) : Int) := by rw [o122_]; exact q24_.2.kL (j := 7) y1_ (y1_.ref h1_ (y1_.2.1 _ finC_27).2.1) (g.row (y1_.ref h1_ (y1_.2.1 _ finC_27).2.1)).1.2.2.2.2.2.1 (by decide) (by decide)
      have t129_ : (qN S56_115 (qO S56_115 (qO S56_115 16 9) 0) : Int) = (qN U131 (qO U131 (qO U131 16 9) 0) : Int) := by rw [o122_]; exact q24_.2.kL (j := 0) y1_ (y1_.ref h1_ (y1_.2.1 _ finC_27).2.1) (g.row (y1_.ref h1_ (y1_.2.1 _ finC_27).2.1)).1.1 (by decide) (by decide)
      have t130_ : (qN S56_115 (qO S56_115 (qO S56_115 16 9) 6) : Int) = (qN U131 (qO U131 (qO U131 16 9) 6) : Int) := by rw [o122_]; exact q24_.2.kL (j := 6) y1_ (y1_.ref h1_ (y1_.2.1 _ finC_27).2.1) (g.row (y1_.ref h1_ (y1_.2.1 _ finC_27).2.1)).1.2.2.2.2.1 (by decide) (by decide)
      have t131_ : (qN S56_115 (qO S56_115 (qO S56_115 16 9) 3) : Int) = (qN U131 (qO U131 (qO U131 16 9) 3) : Int) := by rw [o122_]; exact q24_.2.kL (j := 3) y1_ (y1_.ref h1_ (y1_.2.1 _ finC_27).2.1) (g.row (y1_.ref h1_ (y1_.2.1 _ finC_27).2.1)).1.2.2.1 (by decide) (by decide)
      have t132_ : (qN S56_115 (qO S56_115 (qO S56_115 16 9) 5) : Int) = (qN U131 (qO U131 (qO U131 16 9) 5) : Int) := by rw [o122_]; exact q24_.2.kL (j := 5) y1_ (y1_.ref h1_ (y1_.2.1 _ finC_27).2.1) (g.row (y1_.ref h1_ (y1_.2.1 _ finC_27).2.1)).1.2.2.2.1 (by decide) (by decide)
      have p133_ : qR S56_115 16 8 = some (qO S56_115 16 8) := q24_.2.kP (y1_.2.1 _ finC_27).2.1 h0_ (by decide) (by decide)
      have p134_ : qR S56_115 16 9 = some (qO S56_115 16 9) := q24_.2.kP (y1_.2.1 _ finC_27).2.1 h1_ (by decide) (by decide)
      have g : ShC B S56_115 := ShC.ca y1_ g q24_.2 y26_ y25_ rfl rfl
      intro a59_135 ea59_135 
      have ga59_135 := congrArg Int32.toInt ea59_135
      refine ih131 g p133_ p134_ ?_
      · have s136_ := (g.unit (y25_.ref p133_ (y25_.2.1 _ finC_27).2.1)).2
        have s137_ := (g.row (y25_.ref p134_ (y25_.2.1 _ finC_27).2.1)).2
        have s138_ := g.chk
        unfold ChKk at s138_
        have n1_ := rgI a59_135
        have n2_ := rgI v131_4
        have n3_ := rgI (v131_4 >>> ((4 : Int32) &&& 31))
        have n4s_ := c_shr4 (x := v131_4)
        omega
set_option maxRecDepth 100000 in
theorem sgX1_goThrough {B : Nat × Nat} {S : MS} {x1 : Int32} (hw : wfC S) (g : ShC B S) (qp0_ : qR S 16 8 = some (qO S 16 8)) (qp1_ : qR S 16 9 = some (qO S 16 9)) : wX1_goThrough S x1 (fun u => ShC B u ∧ (True)) := by
  unfold wX1_goThrough
  refine ⟨?_, ?_⟩
  · exact qp1_
  refine ⟨?_, ?_⟩
  · exact (dd_X8_opAt hw g (hw.ref qp1_ (hw.2.1 _ finC_27).2.1))
  intro a6_139 ea6_139 
  have ga6_139 := congrArg Int32.toInt ea6_139
  refine ⟨fun c140_ => ?_, fun c140_ => ?_⟩
  · unfold w_X1_goThrough_J29
    intro y27_
    refine ⟨?_, ?_⟩
    · exact dd_X6_isLoad
    intro a10_141 ea10_141 
    have ga10_141 := congrArg Int32.toInt ea10_141
    refine ⟨fun c142_ => ?_, fun c142_ => ?_⟩
    · refine ⟨?_, ?_⟩
      · exact dd_X6_isStore
      intro a15_143 ea15_143 
      have ga15_143 := congrArg Int32.toInt ea15_143
      refine ⟨fun c144_ => ?_, fun c144_ => ?_⟩
      · refine ⟨fun c145_ => ?_, fun c145_ => ?_⟩
        · refine ⟨?_, ?_⟩
          · exact qp1_
          refine ⟨?_, ?_⟩
          · exact (dd_X8_localOf y27_ g (y27_.ref qp1_ (y27_.2.1 _ finC_27).2.1))
          intro a66_146 ea66_146 
          have ga66_146 := congrArg Int32.toInt ea66_146
          refine ⟨?_, ?_⟩
          · exact dd_X1_placeAt
          intro a70_147 ea70_147 
          have ga70_147 := congrArg Int32.toInt ea70_147
          refine ⟨fun c148_ => ?_, fun c148_ => ?_⟩
          · unfold w_X1_goThrough_J108
            intro y28_ y29_
            refine ⟨?_, ?_⟩
            · exact (bit_or (y28_.bit ((y28_.2.1 _ finC_27).2.1) (by decide)) (Or.inl rfl))
            intro S73_149 eS73_149 y30_ y31_
            have f150_ : cfr [] [(41, 6)] S S73_149 := by rw [eS73_149]; exact cfr.oI y30_ (by decide)
            have o151_ : qO S73_149 16 8 = qO S 16 8 := qO_eq (f150_.kO (y28_.2.1 _ finC_27).2.1 (by decide) (by decide))
            have t152_ : (qI S73_149 (qO S73_149 16 8) 8).toInt = (qI S (qO S 16 8) 8).toInt := by rw [o151_]; exact congrArg Int32.toInt (f150_.kI (j := 8) (y28_.ref qp0_ (y28_.2.1 _ finC_27).2.1) (by decide) (by decide))
            have t153_ : (qI S73_149 (qO S73_149 16 8) 4).toInt = (qI S (qO S 16 8) 4).toInt := by rw [o151_]; exact congrArg Int32.toInt (f150_.kI (j := 4) (y28_.ref qp0_ (y28_.2.1 _ finC_27).2.1) (by decide) (by decide))
            have t154_ : (qN S73_149 (qO S73_149 (qO S73_149 16 8) 13) : Int) = (qN S (qO S (qO S 16 8) 13) : Int) := by rw [o151_]; exact f150_.kL (j := 13) y28_ (y28_.ref qp0_ (y28_.2.1 _ finC_27).2.1) (g.unit (y28_.ref qp0_ (y28_.2.1 _ finC_27).2.1)).1.2.2.2.2.2.2.2.2 (by decide) (by decide)
            have t155_ : (qN S73_149 (qO S73_149 (qO S73_149 16 8) 9) : Int) = (qN S (qO S (qO S 16 8) 9) : Int) := by rw [o151_]; exact f150_.kL (j := 9) y28_ (y28_.ref qp0_ (y28_.2.1 _ finC_27).2.1) (g.unit (y28_.ref qp0_ (y28_.2.1 _ finC_27).2.1)).1.2.2.2.2.1 (by decide) (by decide)
            have t156_ : (qN S73_149 (qO S73_149 (qO S73_149 16 8) 5) : Int) = (qN S (qO S (qO S 16 8) 5) : Int) := by rw [o151_]; exact f150_.kL (j := 5) y28_ (y28_.ref qp0_ (y28_.2.1 _ finC_27).2.1) (g.unit (y28_.ref qp0_ (y28_.2.1 _ finC_27).2.1)).1.2.1 (by decide) (by decide)
            have o157_ : qO S73_149 16 9 = qO S 16 9 := qO_eq (f150_.kO (y28_.2.1 _ finC_27).2.1 (by decide) (by decide))
            have t158_ : (qI S73_149 (qO S73_149 16 9) 4).toInt = (qI S (qO S 16 9) 4).toInt := by rw [o157_]; exact congrArg Int32.toInt (f150_.kI (j := 4) (y28_.ref qp1_ (y28_.2.1 _ finC_27).2.1) (by decide) (by decide))
            have t159_ : (qI S73_149 (qO S73_149 16 9) 9).toInt = (qI S (qO S 16 9) 9).toInt := by rw [o157_]; exact congrArg Int32.toInt (f150_.kI (j := 9) (y28_.ref qp1_ (y28_.2.1 _ finC_27).2.1) (by decide) (by decide))
            have t160_ : (qI S73_149 (qO S73_149 16 9) 2).toInt = (qI S (qO S 16 9) 2).toInt := by rw [o157_]; exact congrArg Int32.toInt (f150_.kI (j := 2) (y28_.ref qp1_ (y28_.2.1 _ finC_27).2.1) (by decide) (by decide))
            have t161_ : (qN S73_149 (qO S73_149 (qO S73_149 16 9) 1) : Int) = (qN S (qO S (qO S 16 9) 1) : Int) := by rw [o157_]; exact f150_.kL (j := 1) y28_ (y28_.ref qp1_ (y28_.2.1 _ finC_27).2.1) (g.row (y28_.ref qp1_ (y28_.2.1 _ finC_27).2.1)).1.2.1 (by decide) (by decide)
            have t162_ : (qN S73_149 (qO S73_149 (qO S73_149 16 9) 8) : Int) = (qN S (qO S (qO S 16 9) 8) : Int) := by rw [o157_]; exact f150_.kL (j := 8) y28_ (y28_.ref qp1_ (y28_.2.1 _ finC_27).2.1) (g.row (y28_.ref qp1_ (y28_.2.1 _ finC_27).2.1)).1.2.2.2.2.2.2 (by decide) (by decide)
            have t163_ : (qN S73_149 (qO S73_149 (qO S73_149 16 9) 7) : Int) = (qN S (qO S (qO S 16 9) 7) : Int) := by rw [o157_]; exact f150_.kL (j := 7) y28_ (y28_.ref qp1_ (y28_.2.1 _ finC_27).2.1) (g.row (y28_.ref qp1_ (y28_.2.1 _ finC_27).2.1)).1.2.2.2.2.2.1 (by decide) (by decide)
            have t164_ : (qN S73_149 (qO S73_149 (qO S73_149 16 9) 0) : Int) = (qN S (qO S (qO S 16 9) 0) : Int) := by rw [o157_]; exact f150_.kL (j := 0) y28_ (y28_.ref qp1_ (y28_.2.1 _ finC_27).2.1) (g.row (y28_.ref qp1_ (y28_.2.1 _ finC_27).2.1)).1.1 (by decide) (by decide)
            have t165_ : (qN S73_149 (qO S73_149 (qO S73_149 16 9) 6) : Int) = (qN S (qO S (qO S 16 9) 6) : Int) := by rw [o157_]; exact f150_.kL (j := 6) y28_ (y28_.ref qp1_ (y28_.2.1 _ finC_27).2.1) (g.row (y28_.ref qp1_ (y28_.2.1 _ finC_27).2.1)).1.2.2.2.2.1 (by decide) (by decide)
            have t166_ : (qN S73_149 (qO S73_149 (qO S73_149 16 9) 3) : Int) = (qN S (qO S (qO S 16 9) 3) : Int) := by rw [o157_]; exact f150_.kL (j := 3) y28_ (y28_.ref qp1_ (y28_.2.1 _ finC_27).2.1) (g.row (y28_.ref qp1_ (y28_.2.1 _ finC_27).2.1)).1.2.2.1 (by decide) (by decide)
            have t167_ : (qN S73_149 (qO S73_149 (qO S73_149 16 9) 5) : Int) = (qN S (qO S (qO S 16 9) 5) : Int) := by rw [o157_]; exact f150_.kL (j := 5) y28_ (y28_.ref qp1_ (y28_.2.1 _ finC_27).2.1) (g.row (y28_.ref qp1_ (y28_.2.1 _ finC_27).2.1)).1.2.2.2.1 (by decide) (by decide)
            have p168_ : qR S73_149 16 8 = some (qO S73_149 16 8) := f150_.kP (y28_.2.1 _ finC_27).2.1 qp0_ (by decide) (by decide)
            have p169_ : qR S73_149 16 9 = some (qO S73_149 16 9) := f150_.kP (y28_.2.1 _ finC_27).2.1 qp1_ (by decide) (by decide)
            have t170_ : (qI S73_149 16 6).toInt = ((qI S 16 6) ||| (0 : Int32)).toInt := by rw [eS73_149, qI_wI, if_pos ⟨rfl, rfl⟩]
            have g : ShC B S73_149 := ShC.ws y28_ g f150_ (by rw [eS73_149]; rfl) (by rw [eS73_149]; rfl) (by rw [eS73_149]; rfl) rfl rfl
            exact ⟨g, trivial⟩
          · unfold w_X1_goThrough_J108
            intro y32_ y33_
            refine ⟨?_, ?_⟩
            · exact (bit_or (y32_.bit ((y32_.2.1 _ finC_27).2.1) (by decide)) (Or.inr rfl))
            intro S73_171 eS73_171 y34_ y35_
            have f172_ : cfr [] [(41, 6)] S S73_171 := by rw [eS73_171]; exact cfr.oI y34_ (by decide)
            have o173_ : qO S73_171 16 8 = qO S 16 8 := qO_eq (f172_.kO (y32_.2.1 _ finC_27).2.1 (by decide) (by decide))
            have t174_ : (qI S73_171 (qO S73_171 16 8) 8).toInt = (qI S (qO S 16 8) 8).toInt := by rw [o173_]; exact congrArg Int32.toInt (f172_.kI (j := 8) (y32_.ref qp0_ (y32_.2.1 _ finC_27).2.1) (by decide) (by decide))
            have t175_ : (qI S73_171 (qO S73_171 16 8) 4).toInt = (qI S (qO S 16 8) 4).toInt := by rw [o173_]; exact congrArg Int32.toInt (f172_.kI (j := 4) (y32_.ref qp0_ (y32_.2.1 _ finC_27).2.1) (by decide) (by decide))
            have t176_ : (qN S73_171 (qO S73_171 (qO S73_171 16 8) 13) : Int) = (qN S (qO S (qO S 16 8) 13) : Int) := by rw [o173_]; exact f172_.kL (j := 13) y32_ (y32_.ref qp0_ (y32_.2.1 _ finC_27).2.1) (g.unit (y32_.ref qp0_ (y32_.2.1 _ finC_27).2.1)).1.2.2.2.2.2.2.2.2 (by decide) (by decide)
            have t177_ : (qN S73_171 (qO S73_171 (qO S73_171 16 8) 9) : Int) = (qN S (qO S (qO S 16 8) 9) : Int) := by rw [o173_]; exact f172_.kL (j := 9) y32_ (y32_.ref qp0_ (y32_.2.1 _ finC_27).2.1) (g.unit (y32_.ref qp0_ (y32_.2.1 _ finC_27).2.1)).1.2.2.2.2.1 (by decide) (by decide)
            have t178_ : (qN S73_171 (qO S73_171 (qO S73_171 16 8) 5) : Int) = (qN S (qO S (qO S 16 8) 5) : Int) := by rw [o173_]; exact f172_.kL (j := 5) y32_ (y32_.ref qp0_ (y32_.2.1 _ finC_27).2.1) (g.unit (y32_.ref qp0_ (y32_.2.1 _ finC_27).2.1)).1.2.1 (by decide) (by decide)
            have o179_ : qO S73_171 16 9 = qO S 16 9 := qO_eq (f172_.kO (y32_.2.1 _ finC_27).2.1 (by decide) (by decide))
            have t180_ : (qI S73_171 (qO S73_171 16 9) 4).toInt = (qI S (qO S 16 9) 4).toInt := by rw [o179_]; exact congrArg Int32.toInt (f172_.kI (j := 4) (y32_.ref qp1_ (y32_.2.1 _ finC_27).2.1) (by decide) (by decide))
            have t181_ : (qI S73_171 (qO S73_171 16 9) 9).toInt = (qI S (qO S 16 9) 9).toInt := by rw [o179_]; exact congrArg Int32.toInt (f172_.kI (j := 9) (y32_.ref qp1_ (y32_.2.1 _ finC_27).2.1) (by decide) (by decide))
            have t182_ : (qI S73_171 (qO S73_171 16 9) 2).toInt = (qI S (qO S 16 9) 2).toInt := by rw [o179_]; exact congrArg Int32.toInt (f172_.kI (j := 2) (y32_.ref qp1_ (y32_.2.1 _ finC_27).2.1) (by decide) (by decide))
            have t183_ : (qN S73_171 (qO S73_171 (qO S73_171 16 9) 1) : Int) = (qN S (qO S (qO S 16 9) 1) : Int) := by rw [o179_]; exact f172_.kL (j := 1) y32_ (y32_.ref qp1_ (y32_.2.1 _ finC_27).2.1) (g.row (y32_.ref qp1_ (y32_.2.1 _ finC_27).2.1)).1.2.1 (by decide) (by decide)
            have t184_ : (qN S73_171 (qO S73_171 (qO S73_171 16 9) 8) : Int) = (qN S (qO S (qO S 16 9) 8) : Int) := by rw [o179_]; exact f172_.kL (j := 8) y32_ (y32_.ref qp1_ (y32_.2.1 _ finC_27).2.1) (g.row (y32_.ref qp1_ (y32_.2.1 _ finC_27).2.1)).1.2.2.2.2.2.2 (by decide) (by decide)
            have t185_ : (qN S73_171 (qO S73_171 (qO S73_171 16 9) 7) : Int) = (qN S (qO S (qO S 16 9) 7) : Int) := by rw [o179_]; exact f172_.kL (j := 7) y32_ (y32_.ref qp1_ (y32_.2.1 _ finC_27).2.1) (g.row (y32_.ref qp1_ (y32_.2.1 _ finC_27).2.1)).1.2.2.2.2.2.1 (by decide) (by decide)
            have t186_ : (qN S73_171 (qO S73_171 (qO S73_171 16 9) 0) : Int) = (qN S (qO S (qO S 16 9) 0) : Int) := by rw [o179_]; exact f172_.kL (j := 0) y32_ (y32_.ref qp1_ (y32_.2.1 _ finC_27).2.1) (g.row (y32_.ref qp1_ (y32_.2.1 _ finC_27).2.1)).1.1 (by decide) (by decide)
            have t187_ : (qN S73_171 (qO S73_171 (qO S73_171 16 9) 6) : Int) = (qN S (qO S (qO S 16 9) 6) : Int) := by rw [o179_]; exact f172_.kL (j := 6) y32_ (y32_.ref qp1_ (y32_.2.1 _ finC_27).2.1) (g.row (y32_.ref qp1_ (y32_.2.1 _ finC_27).2.1)).1.2.2.2.2.1 (by decide) (by decide)
            have t188_ : (qN S73_171 (qO S73_171 (qO S73_171 16 9) 3) : Int) = (qN S (qO S (qO S 16 9) 3) : Int) := by rw [o179_]; exact f172_.kL (j := 3) y32_ (y32_.ref qp1_ (y32_.2.1 _ finC_27).2.1) (g.row (y32_.ref qp1_ (y32_.2.1 _ finC_27).2.1)).1.2.2.1 (by decide) (by decide)
            have t189_ : (qN S73_171 (qO S73_171 (qO S73_171 16 9) 5) : Int) = (qN S (qO S (qO S 16 9) 5) : Int) := by rw [o179_]; exact f172_.kL (j := 5) y32_ (y32_.ref qp1_ (y32_.2.1 _ finC_27).2.1) (g.row (y32_.ref qp1_ (y32_.2.1 _ finC_27).2.1)).1.2.2.2.1 (by decide) (by decide)
            have p190_ : qR S73_171 16 8 = some (qO S73_171 16 8) := f172_.kP (y32_.2.1 _ finC_27).2.1 qp0_ (by decide) (by decide)
            have p191_ : qR S73_171 16 9 = some (qO S73_171 16 9) := f172_.kP (y32_.2.1 _ finC_27).2.1 qp1_ (by decide) (by decide)
            have t192_ : (qI S73_171 16 6).toInt = ((qI S 16 6) ||| (1 : Int32)).toInt := by rw [eS73_171, qI_wI, if_pos ⟨rfl, rfl⟩]
            have g : ShC B S73_171 := ShC.ws y32_ g f172_ (by rw [eS73_171]; rfl) (by rw [eS73_171]; rfl) (by rw [eS73_171]; rfl) rfl rfl
            exact ⟨g, trivial⟩
        · refine ⟨?_, ?_⟩
          · exact qp0_
          refine ⟨?_, ?_⟩
          · exact qp1_
          refine ⟨?_, ?_⟩
          · exact (dd_X10_takes y27_ g (y27_.ref qp0_ (y27_.2.1 _ finC_27).2.1) (y27_.ref qp1_ (y27_.2.1 _ finC_27).2.1))
          intro a25_193 ea25_193 
          have ga25_193 := congrArg Int32.toInt ea25_193
          refine ⟨(a25_193.toInt + 2147483649).toNat + 1, ?_⟩
          refine sg_X1_goThrough_L131  _ g qp0_ qp1_ ?_
          · have s194_ := (g.unit (y27_.ref qp0_ (y27_.2.1 _ finC_27).2.1)).2
            have s195_ := (g.row (y27_.ref qp1_ (y27_.2.1 _ finC_27).2.1)).2
            have s196_ := g.chk
            unfold ChKk at s196_
            have n1_ := rgI a25_193
            have n2_ := rgI a6_139
            have n3_ := rgI (fX8_opAt S (qO S 16 9) x1)
            have n4_ := rgI a10_141
            have n5_ := rgI (fX6_isLoad S a6_139)
            have n6_ := rgI a15_143
            have n7_ := rgI (fX6_isStore S a6_139)
            have n8_ := rgI (fX10_takes S (qO S 16 8) (qO S 16 9) x1)
            omega
      · refine ⟨?_, ?_⟩
        · exact qp1_
        refine ⟨?_, ?_⟩
        · exact (dd_X8_localOf y27_ g (y27_.ref qp1_ (y27_.2.1 _ finC_27).2.1))
        intro a80_197 ea80_197 
        have ga80_197 := congrArg Int32.toInt ea80_197
        refine ⟨_, frX1_store y27_ (sfX1_store y27_ ), ?_⟩
        intro S82_198 q36_ y37_ y38_
        have o199_ : qO S82_198 16 8 = qO S 16 8 := qO_eq (q36_.2.kO (y27_.2.1 _ finC_27).2.1 (by decide) (by decide))
        have t200_ : (qI S82_198 (qO S82_198 16 8) 8).toInt = (qI S (qO S 16 8) 8).toInt := by rw [o199_]; exact congrArg Int32.toInt (q36_.2.kI (j := 8) (y27_.ref qp0_ (y27_.2.1 _ finC_27).2.1) (by decide) (by decide))
        have t201_ : (qI S82_198 (qO S82_198 16 8) 4).toInt = (qI S (qO S 16 8) 4).toInt := by rw [o199_]; exact congrArg Int32.toInt (q36_.2.kI (j := 4) (y27_.ref qp0_ (y27_.2.1 _ finC_27).2.1) (by decide) (by decide))
        have t202_ : (qN S82_198 (qO S82_198 (qO S82_198 16 8) 13) : Int) = (qN S (qO S (qO S 16 8) 13) : Int) := by rw [o199_]; exact q36_.2.kL (j := 13) y27_ (y27_.ref qp0_ (y27_.2.1 _ finC_27).2.1) (g.unit (y27_.ref qp0_ (y27_.2.1 _ finC_27).2.1)).1.2.2.2.2.2.2.2.2 (by decide) (by decide)
        have t203_ : (qN S82_198 (qO S82_198 (qO S82_198 16 8) 9) : Int) = (qN S (qO S (qO S 16 8) 9) : Int) := by rw [o199_]; exact q36_.2.kL (j := 9) y27_ (y27_.ref qp0_ (y27_.2.1 _ finC_27).2.1) (g.unit (y27_.ref qp0_ (y27_.2.1 _ finC_27).2.1)).1.2.2.2.2.1 (by decide) (by decide)
        have t204_ : (qN S82_198 (qO S82_198 (qO S82_198 16 8) 5) : Int) = (qN S (qO S (qO S 16 8) 5) : Int) := by rw [o199_]; exact q36_.2.kL (j := 5) y27_ (y27_.ref qp0_ (y27_.2.1 _ finC_27).2.1) (g.unit (y27_.ref qp0_ (y27_.2.1 _ finC_27).2.1)).1.2.1 (by decide) (by decide)
        have o205_ : qO S82_198 16 9 = qO S 16 9 := qO_eq (q36_.2.kO (y27_.2.1 _ finC_27).2.1 (by decide) (by decide))
        have t206_ : (qI S82_198 (qO S82_198 16 9) 4).toInt = (qI S (qO S 16 9) 4).toInt := by rw [o205_]; exact congrArg Int32.toInt (q36_.2.kI (j := 4) (y27_.ref qp1_ (y27_.2.1 _ finC_27).2.1) (by decide) (by decide))
        have t207_ : (qI S82_198 (qO S82_198 16 9) 9).toInt = (qI S (qO S 16 9) 9).toInt := by rw [o205_]; exact congrArg Int32.toInt (q36_.2.kI (j := 9) (y27_.ref qp1_ (y27_.2.1 _ finC_27).2.1) (by decide) (by decide))
        have t208_ : (qI S82_198 (qO S82_198 16 9) 2).toInt = (qI S (qO S 16 9) 2).toInt := by rw [o205_]; exact congrArg Int32.toInt (q36_.2.kI (j := 2) (y27_.ref qp1_ (y27_.2.1 _ finC_27).2.1) (by decide) (by decide))
        have t209_ : (qN S82_198 (qO S82_198 (qO S82_198 16 9) 1) : Int) = (qN S (qO S (qO S 16 9) 1) : Int) := by rw [o205_]; exact q36_.2.kL (j := 1) y27_ (y27_.ref qp1_ (y27_.2.1 _ finC_27).2.1) (g.row (y27_.ref qp1_ (y27_.2.1 _ finC_27).2.1)).1.2.1 (by decide) (by decide)
        have t210_ : (qN S82_198 (qO S82_198 (qO S82_198 16 9) 8) : Int) = (qN S (qO S (qO S 16 9) 8) : Int) := by rw [o205_]; exact q36_.2.kL (j := 8) y27_ (y27_.ref qp1_ (y27_.2.1 _ finC_27).2.1) (g.row (y27_.ref qp1_ (y27_.2.1 _ finC_27).2.1)).1.2.2.2.2.2.2 (by decide) (by decide)
        have t211_ : (qN S82_198 (qO S82_198 (qO S82_198 16 9) 7) : Int) = (qN S (qO S (qO S 16 9) 7) : Int) := by rw [o205_]; exact q36_.2.kL (j := 7) y27_ (y27_.ref qp1_ (y27_.2.1 _ finC_27).2.1) (g.row (y27_.ref qp1_ (y27_.2.1 _ finC_27).2.1)).1.2.2.2.2.2.1 (by decide) (by decide)
        have t212_ : (qN S82_198 (qO S82_198 (qO S82_198 16 9) 0) : Int) = (qN S (qO S (qO S 16 9) 0) : Int) := by rw [o205_]; exact q36_.2.kL (j := 0) y27_ (y27_.ref qp1_ (y27_.2.1 _ finC_27).2.1) (g.row (y27_.ref qp1_ (y27_.2.1 _ finC_27).2.1)).1.1 (by decide) (by decide)
        have t213_ : (qN S82_198 (qO S82_198 (qO S82_198 16 9) 6) : Int) = (qN S (qO S (qO S 16 9) 6) : Int) := by rw [o205_]; exact q36_.2.kL (j := 6) y27_ (y27_.ref qp1_ (y27_.2.1 _ finC_27).2.1) (g.row (y27_.ref qp1_ (y27_.2.1 _ finC_27).2.1)).1.2.2.2.2.1 (by decide) (by decide)
        have t214_ : (qN S82_198 (qO S82_198 (qO S82_198 16 9) 3) : Int) = (qN S (qO S (qO S 16 9) 3) : Int) := by rw [o205_]; exact q36_.2.kL (j := 3) y27_ (y27_.ref qp1_ (y27_.2.1 _ finC_27).2.1) (g.row (y27_.ref qp1_ (y27_.2.1 _ finC_27).2.1)).1.2.2.1 (by decide) (by decide)
        have t215_ : (qN S82_198 (qO S82_198 (qO S82_198 16 9) 5) : Int) = (qN S (qO S (qO S 16 9) 5) : Int) := by rw [o205_]; exact q36_.2.kL (j := 5) y27_ (y27_.ref qp1_ (y27_.2.1 _ finC_27).2.1) (g.row (y27_.ref qp1_ (y27_.2.1 _ finC_27).2.1)).1.2.2.2.1 (by decide) (by decide)
        have p216_ : qR S82_198 16 8 = some (qO S82_198 16 8) := q36_.2.kP (y27_.2.1 _ finC_27).2.1 qp0_ (by decide) (by decide)
        have p217_ : qR S82_198 16 9 = some (qO S82_198 16 9) := q36_.2.kP (y27_.2.1 _ finC_27).2.1 qp1_ (by decide) (by decide)
        have g : ShC B S82_198 := ShC.ca y27_ g q36_.2 y38_ y37_ rfl rfl
        exact ⟨g, trivial⟩
    · refine ⟨?_, ?_⟩
      · exact qp1_
      refine ⟨?_, ?_⟩
      · exact (dd_X8_localOf y27_ g (y27_.ref qp1_ (y27_.2.1 _ finC_27).2.1))
      intro a89_218 ea89_218 
      have ga89_218 := congrArg Int32.toInt ea89_218
      refine ⟨_, frX1_load y27_ (sfX1_load y27_ ), ?_⟩
      intro S91_219 q39_ y40_ y41_
      have o220_ : qO S91_219 16 8 = qO S 16 8 := qO_eq (q39_.2.kO (y27_.2.1 _ finC_27).2.1 (by decide) (by decide))
      have t221_ : (qI S91_219 (qO S91_219 16 8) 8).toInt = (qI S (qO S 16 8) 8).toInt := by rw [o220_]; exact congrArg Int32.toInt (q39_.2.kI (j := 8) (y27_.ref qp0_ (y27_.2.1 _ finC_27).2.1) (by decide) (by decide))
      have t222_ : (qI S91_219 (qO S91_219 16 8) 4).toInt = (qI S (qO S 16 8) 4).toInt := by rw [o220_]; exact congrArg Int32.toInt (q39_.2.kI (j := 4) (y27_.ref qp0_ (y27_.2.1 _ finC_27).2.1) (by decide) (by decide))
      have t223_ : (qN S91_219 (qO S91_219 (qO S91_219 16 8) 13) : Int) = (qN S (qO S (qO S 16 8) 13) : Int) := by rw [o220_]; exact q39_.2.kL (j := 13) y27_ (y27_.ref qp0_ (y27_.2.1 _ finC_27).2.1) (g.unit (y27_.ref qp0_ (y27_.2.1 _ finC_27).2.1)).1.2.2.2.2.2.2.2.2 (by decide) (by decide)
      have t224_ : (qN S91_219 (qO S91_219 (qO S91_219 16 8) 9) : Int) = (qN S (qO S (qO S 16 8) 9) : Int) := by rw [o220_]; exact q39_.2.kL (j := 9) y27_ (y27_.ref qp0_ (y27_.2.1 _ finC_27).2.1) (g.unit (y27_.ref qp0_ (y27_.2.1 _ finC_27).2.1)).1.2.2.2.2.1 (by decide) (by decide)
      have t225_ : (qN S91_219 (qO S91_219 (qO S91_219 16 8) 5) : Int) = (qN S (qO S (qO S 16 8) 5) : Int) := by rw [o220_]; exact q39_.2.kL (j := 5) y27_ (y27_.ref qp0_ (y27_.2.1 _ finC_27).2.1) (g.unit (y27_.ref qp0_ (y27_.2.1 _ finC_27).2.1)).1.2.1 (by decide) (by decide)
      have o226_ : qO S91_219 16 9 = qO S 16 9 := qO_eq (q39_.2.kO (y27_.2.1 _ finC_27).2.1 (by decide) (by decide))
      have t227_ : (qI S91_219 (qO S91_219 16 9) 4).toInt = (qI S (qO S 16 9) 4).toInt := by rw [o226_]; exact congrArg Int32.toInt (q39_.2.kI (j := 4) (y27_.ref qp1_ (y27_.2.1 _ finC_27).2.1) (by decide) (by decide))
      have t228_ : (qI S91_219 (qO S91_219 16 9) 9).toInt = (qI S (qO S 16 9) 9).toInt := by rw [o226_]; exact congrArg Int32.toInt (q39_.2.kI (j := 9) (y27_.ref qp1_ (y27_.2.1 _ finC_27).2.1) (by decide) (by decide))
      have t229_ : (qI S91_219 (qO S91_219 16 9) 2).toInt = (qI S (qO S 16 9) 2).toInt := by rw [o226_]; exact congrArg Int32.toInt (q39_.2.kI (j := 2) (y27_.ref qp1_ (y27_.2.1 _ finC_27).2.1) (by decide) (by decide))
      have t230_ : (qN S91_219 (qO S91_219 (qO S91_219 16 9) 1) : Int) = (qN S (qO S (qO S 16 9) 1) : Int) := by rw [o226_]; exact q39_.2.kL (j := 1) y27_ (y27_.ref qp1_ (y27_.2.1 _ finC_27).2.1) (g.row (y27_.ref qp1_ (y27_.2.1 _ finC_27).2.1)).1.2.1 (by decide) (by decide)
      have t231_ : (qN S91_219 (qO S91_219 (qO S91_219 16 9) 8) : Int) = (qN S (qO S (qO S 16 9) 8) : Int) := by rw [o226_]; exact q39_.2.kL (j := 8) y27_ (y27_.ref qp1_ (y27_.2.1 _ finC_27).2.1) (g.row (y27_.ref qp1_ (y27_.2.1 _ finC_27).2.1)).1.2.2.2.2.2.2 (by decide) (by decide)
      have t232_ : (qN S91_219 (qO S91_219 (qO S91_219 16 9) 7) : Int) = (qN S (qO S (qO S 16 9) 7) : Int) := by rw [o226_]; exact q39_.2.kL (j := 7) y27_ (y27_.ref qp1_ (y27_.2.1 _ finC_27).2.1) (g.row (y27_.ref qp1_ (y27_.2.1 _ finC_27).2.1)).1.2.2.2.2.2.1 (by decide) (by decide)
      have t233_ : (qN S91_219 (qO S91_219 (qO S91_219 16 9) 0) : Int) = (qN S (qO S (qO S 16 9) 0) : Int) := by rw [o226_]; exact q39_.2.kL (j := 0) y27_ (y27_.ref qp1_ (y27_.2.1 _ finC_27).2.1) (g.row (y27_.ref qp1_ (y27_.2.1 _ finC_27).2.1)).1.1 (by decide) (by decide)
      have t234_ : (qN S91_219 (qO S91_219 (qO S91_219 16 9) 6) : Int) = (qN S (qO S (qO S 16 9) 6) : Int) := by rw [o226_]; exact q39_.2.kL (j := 6) y27_ (y27_.ref qp1_ (y27_.2.1 _ finC_27).2.1) (g.row (y27_.ref qp1_ (y27_.2.1 _ finC_27).2.1)).1.2.2.2.2.1 (by decide) (by decide)
      have t235_ : (qN S91_219 (qO S91_219 (qO S91_219 16 9) 3) : Int) = (qN S (qO S (qO S 16 9) 3) : Int) := by rw [o226_]; exact q39_.2.kL (j := 3) y27_ (y27_.ref qp1_ (y27_.2.1 _ finC_27).2.1) (g.row (y27_.ref qp1_ (y27_.2.1 _ finC_27).2.1)).1.2.2.1 (by decide) (by decide)
      have t236_ : (qN S91_219 (qO S91_219 (qO S91_219 16 9) 5) : Int) = (qN S (qO S (qO S 16 9) 5) : Int) := by rw [o226_]; exact q39_.2.kL (j := 5) y27_ (y27_.ref qp1_ (y27_.2.1 _ finC_27).2.1) (g.row (y27_.ref qp1_ (y27_.2.1 _ finC_27).2.1)).1.2.2.2.1 (by decide) (by decide)
      have p237_ : qR S91_219 16 8 = some (qO S91_219 16 8) := q39_.2.kP (y27_.2.1 _ finC_27).2.1 qp0_ (by decide) (by decide)
      have p238_ : qR S91_219 16 9 = some (qO S91_219 16 9) := q39_.2.kP (y27_.2.1 _ finC_27).2.1 qp1_ (by decide) (by decide)
      have g : ShC B S91_219 := ShC.ca y27_ g q39_.2 y41_ y40_ rfl rfl
      exact ⟨g, trivial⟩
  · refine ⟨fun c239_ => ?_, fun c239_ => ?_⟩
    · unfold w_X1_goThrough_J29
      intro y42_
      refine ⟨?_, ?_⟩
      · exact dd_X6_isLoad
      intro a10_240 ea10_240 
      have ga10_240 := congrArg Int32.toInt ea10_240
      refine ⟨fun c241_ => ?_, fun c241_ => ?_⟩
      · refine ⟨?_, ?_⟩
        · exact dd_X6_isStore
        intro a15_242 ea15_242 
        have ga15_242 := congrArg Int32.toInt ea15_242
        refine ⟨fun c243_ => ?_, fun c243_ => ?_⟩
        · refine ⟨fun c244_ => ?_, fun c244_ => ?_⟩
          · refine ⟨?_, ?_⟩
            · exact qp1_
            refine ⟨?_, ?_⟩
            · exact (dd_X8_localOf y42_ g (y42_.ref qp1_ (y42_.2.1 _ finC_27).2.1))
            intro a66_245 ea66_245 
            have ga66_245 := congrArg Int32.toInt ea66_245
            refine ⟨?_, ?_⟩
            · exact dd_X1_placeAt
            intro a70_246 ea70_246 
            have ga70_246 := congrArg Int32.toInt ea70_246
            refine ⟨fun c247_ => ?_, fun c247_ => ?_⟩
            · unfold w_X1_goThrough_J108
              intro y43_ y44_
              refine ⟨?_, ?_⟩
              · exact (bit_or (y43_.bit ((y43_.2.1 _ finC_27).2.1) (by decide)) (Or.inl rfl))
              intro S73_248 eS73_248 y45_ y46_
              have f249_ : cfr [] [(41, 6)] S S73_248 := by rw [eS73_248]; exact cfr.oI y45_ (by decide)
              have o250_ : qO S73_248 16 8 = qO S 16 8 := qO_eq (f249_.kO (y43_.2.1 _ finC_27).2.1 (by decide) (by decide))
              have t251_ : (qI S73_248 (qO S73_248 16 8) 8).toInt = (qI S (qO S 16 8) 8).toInt := by rw [o250_]; exact congrArg Int32.toInt (f249_.kI (j := 8) (y43_.ref qp0_ (y43_.2.1 _ finC_27).2.1) (by decide) (by decide))
              have t252_ : (qI S73_248 (qO S73_248 16 8) 4).toInt = (qI S (qO S 16 8) 4).toInt := by rw [o250_]; exact congrArg Int32.toInt (f249_.kI (j := 4) (y43_.ref qp0_ (y43_.2.1 _ finC_27).2.1) (by decide) (by decide))
              have t253_ : (qN S73_248 (qO S73_248 (qO S73_248 16 8) 13) : Int) = (qN S (qO S (qO S 16 8) 13) : Int) := by rw [o250_]; exact f249_.kL (j := 13) y43_ (y43_.ref qp0_ (y43_.2.1 _ finC_27).2.1) (g.unit (y43_.ref qp0_ (y43_.2.1 _ finC_27).2.1)).1.2.2.2.2.2.2.2.2 (by decide) (by decide)
              have t254_ : (qN S73_248 (qO S73_248 (qO S73_248 16 8) 9) : Int) = (qN S (qO S (qO S 16 8) 9) : Int) := by rw [o250_]; exact f249_.kL (j := 9) y43_ (y43_.ref qp0_ (y43_.2.1 _ finC_27).2.1) (g.unit (y43_.ref qp0_ (y43_.2.1 _ finC_27).2.1)).1.2.2.2.2.1 (by decide) (by decide)
              have t255_ : (qN S73_248 (qO S73_248 (qO S73_248 16 8) 5) : Int) = (qN S (qO S (qO S 16 8) 5) : Int) := by rw [o250_]; exact f249_.kL (j := 5) y43_ (y43_.ref qp0_ (y43_.2.1 _ finC_27).2.1) (g.unit (y43_.ref qp0_ (y43_.2.1 _ finC_27).2.1)).1.2.1 (by decide) (by decide)
              have o256_ : qO S73_248 16 9 = qO S 16 9 := qO_eq (f249_.kO (y43_.2.1 _ finC_27).2.1 (by decide) (by decide))
              have t257_ : (qI S73_248 (qO S73_248 16 9) 4).toInt = (qI S (qO S 16 9) 4).toInt := by rw [o256_]; exact congrArg Int32.toInt (f249_.kI (j := 4) (y43_.ref qp1_ (y43_.2.1 _ finC_27).2.1) (by decide) (by decide))
              have t258_ : (qI S73_248 (qO S73_248 16 9) 9).toInt = (qI S (qO S 16 9) 9).toInt := by rw [o256_]; exact congrArg Int32.toInt (f249_.kI (j := 9) (y43_.ref qp1_ (y43_.2.1 _ finC_27).2.1) (by decide) (by decide))
              have t259_ : (qI S73_248 (qO S73_248 16 9) 2).toInt = (qI S (qO S 16 9) 2).toInt := by rw [o256_]; exact congrArg Int32.toInt (f249_.kI (j := 2) (y43_.ref qp1_ (y43_.2.1 _ finC_27).2.1) (by decide) (by decide))
              have t260_ : (qN S73_248 (qO S73_248 (qO S73_248 16 9) 1) : Int) = (qN S (qO S (qO S 16 9) 1) : Int) := by rw [o256_]; exact f249_.kL (j := 1) y43_ (y43_.ref qp1_ (y43_.2.1 _ finC_27).2.1) (g.row (y43_.ref qp1_ (y43_.2.1 _ finC_27).2.1)).1.2.1 (by decide) (by decide)
              have t261_ : (qN S73_248 (qO S73_248 (qO S73_248 16 9) 8) : Int) = (qN S (qO S (qO S 16 9) 8) : Int) := by rw [o256_]; exact f249_.kL (j := 8) y43_ (y43_.ref qp1_ (y43_.2.1 _ finC_27).2.1) (g.row (y43_.ref qp1_ (y43_.2.1 _ finC_27).2.1)).1.2.2.2.2.2.2 (by decide) (by decide)
              have t262_ : (qN S73_248 (qO S73_248 (qO S73_248 16 9) 7) : Int) = (qN S (qO S (qO S 16 9) 7) : Int) := by rw [o256_]; exact f249_.kL (j := 7) y43_ (y43_.ref qp1_ (y43_.2.1 _ finC_27).2.1) (g.row (y43_.ref qp1_ (y43_.2.1 _ finC_27).2.1)).1.2.2.2.2.2.1 (by decide) (by decide)
              have t263_ : (qN S73_248 (qO S73_248 (qO S73_248 16 9) 0) : Int) = (qN S (qO S (qO S 16 9) 0) : Int) := by rw [o256_]; exact f249_.kL (j := 0) y43_ (y43_.ref qp1_ (y43_.2.1 _ finC_27).2.1) (g.row (y43_.ref qp1_ (y43_.2.1 _ finC_27).2.1)).1.1 (by decide) (by decide)
              have t264_ : (qN S73_248 (qO S73_248 (qO S73_248 16 9) 6) : Int) = (qN S (qO S (qO S 16 9) 6) : Int) := by rw [o256_]; exact f249_.kL (j := 6) y43_ (y43_.ref qp1_ (y43_.2.1 _ finC_27).2.1) (g.row (y43_.ref qp1_ (y43_.2.1 _ finC_27).2.1)).1.2.2.2.2.1 (by decide) (by decide)
              have t265_ : (qN S73_248 (qO S73_248 (qO S73_248 16 9) 3) : Int) = (qN S (qO S (qO S 16 9) 3) : Int) := by rw [o256_]; exact f249_.kL (j := 3) y43_ (y43_.ref qp1_ (y43_.2.1 _ finC_27).2.1) (g.row (y43_.ref qp1_ (y43_.2.1 _ finC_27).2.1)).1.2.2.1 (by decide) (by decide)
              have t266_ : (qN S73_248 (qO S73_248 (qO S73_248 16 9) 5) : Int) = (qN S (qO S (qO S 16 9) 5) : Int) := by rw [o256_]; exact f249_.kL (j := 5) y43_ (y43_.ref qp1_ (y43_.2.1 _ finC_27).2.1) (g.row (y43_.ref qp1_ (y43_.2.1 _ finC_27).2.1)).1.2.2.2.1 (by decide) (by decide)
              have p267_ : qR S73_248 16 8 = some (qO S73_248 16 8) := f249_.kP (y43_.2.1 _ finC_27).2.1 qp0_ (by decide) (by decide)
              have p268_ : qR S73_248 16 9 = some (qO S73_248 16 9) := f249_.kP (y43_.2.1 _ finC_27).2.1 qp1_ (by decide) (by decide)
              have t269_ : (qI S73_248 16 6).toInt = ((qI S 16 6) ||| (0 : Int32)).toInt := by rw [eS73_248, qI_wI, if_pos ⟨rfl, rfl⟩]
              have g : ShC B S73_248 := ShC.ws y43_ g f249_ (by rw [eS73_248]; rfl) (by rw [eS73_248]; rfl) (by rw [eS73_248]; rfl) rfl rfl
              exact ⟨g, trivial⟩
            · unfold w_X1_goThrough_J108
              intro y47_ y48_
              refine ⟨?_, ?_⟩
              · exact (bit_or (y47_.bit ((y47_.2.1 _ finC_27).2.1) (by decide)) (Or.inr rfl))
              intro S73_270 eS73_270 y49_ y50_
              have f271_ : cfr [] [(41, 6)] S S73_270 := by rw [eS73_270]; exact cfr.oI y49_ (by decide)
              have o272_ : qO S73_270 16 8 = qO S 16 8 := qO_eq (f271_.kO (y47_.2.1 _ finC_27).2.1 (by decide) (by decide))
              have t273_ : (qI S73_270 (qO S73_270 16 8) 8).toInt = (qI S (qO S 16 8) 8).toInt := by rw [o272_]; exact congrArg Int32.toInt (f271_.kI (j := 8) (y47_.ref qp0_ (y47_.2.1 _ finC_27).2.1) (by decide) (by decide))
              have t274_ : (qI S73_270 (qO S73_270 16 8) 4).toInt = (qI S (qO S 16 8) 4).toInt := by rw [o272_]; exact congrArg Int32.toInt (f271_.kI (j := 4) (y47_.ref qp0_ (y47_.2.1 _ finC_27).2.1) (by decide) (by decide))
              have t275_ : (qN S73_270 (qO S73_270 (qO S73_270 16 8) 13) : Int) = (qN S (qO S (qO S 16 8) 13) : Int) := by rw [o272_]; exact f271_.kL (j := 13) y47_ (y47_.ref qp0_ (y47_.2.1 _ finC_27).2.1) (g.unit (y47_.ref qp0_ (y47_.2.1 _ finC_27).2.1)).1.2.2.2.2.2.2.2.2 (by decide) (by decide)
              have t276_ : (qN S73_270 (qO S73_270 (qO S73_270 16 8) 9) : Int) = (qN S (qO S (qO S 16 8) 9) : Int) := by rw [o272_]; exact f271_.kL (j := 9) y47_ (y47_.ref qp0_ (y47_.2.1 _ finC_27).2.1) (g.unit (y47_.ref qp0_ (y47_.2.1 _ finC_27).2.1)).1.2.2.2.2.1 (by decide) (by decide)
              have t277_ : (qN S73_270 (qO S73_270 (qO S73_270 16 8) 5) : Int) = (qN S (qO S (qO S 16 8) 5) : Int) := by rw [o272_]; exact f271_.kL (j := 5) y47_ (y47_.ref qp0_ (y47_.2.1 _ finC_27).2.1) (g.unit (y47_.ref qp0_ (y47_.2.1 _ finC_27).2.1)).1.2.1 (by decide) (by decide)
              have o278_ : qO S73_270 16 9 = qO S 16 9 := qO_eq (f271_.kO (y47_.2.1 _ finC_27).2.1 (by decide) (by decide))
              have t279_ : (qI S73_270 (qO S73_270 16 9) 4).toInt = (qI S (qO S 16 9) 4).toInt := by rw [o278_]; exact congrArg Int32.toInt (f271_.kI (j := 4) (y47_.ref qp1_ (y47_.2.1 _ finC_27).2.1) (by decide) (by decide))
              have t280_ : (qI S73_270 (qO S73_270 16 9) 9).toInt = (qI S (qO S 16 9) 9).toInt := by rw [o278_]; exact congrArg Int32.toInt (f271_.kI (j := 9) (y47_.ref qp1_ (y47_.2.1 _ finC_27).2.1) (by decide) (by decide))
              have t281_ : (qI S73_270 (qO S73_270 16 9) 2).toInt = (qI S (qO S 16 9) 2).toInt := by rw [o278_]; exact congrArg Int32.toInt (f271_.kI (j := 2) (y47_.ref qp1_ (y47_.2.1 _ finC_27).2.1) (by decide) (by decide))
              have t282_ : (qN S73_270 (qO S73_270 (qO S73_270 16 9) 1) : Int) = (qN S (qO S (qO S 16 9) 1) : Int) := by rw [o278_]; exact f271_.kL (j := 1) y47_ (y47_.ref qp1_ (y47_.2.1 _ finC_27).2.1) (g.row (y47_.ref qp1_ (y47_.2.1 _ finC_27).2.1)).1.2.1 (by decide) (by decide)
              have t283_ : (qN S73_270 (qO S73_270 (qO S73_270 16 9) 8) : Int) = (qN S (qO S (qO S 16 9) 8) : Int) := by rw [o278_]; exact f271_.kL (j := 8) y47_ (y47_.ref qp1_ (y47_.2.1 _ finC_27).2.1) (g.row (y47_.ref qp1_ (y47_.2.1 _ finC_27).2.1)).1.2.2.2.2.2.2 (by decide) (by decide)
              have t284_ : (qN S73_270 (qO S73_270 (qO S73_270 16 9) 7) : Int) = (qN S (qO S (qO S 16 9) 7) : Int) := by rw [o278_]; exact f271_.kL (j := 7) y47_ (y47_.ref qp1_ (y47_.2.1 _ finC_27).2.1) (g.row (y47_.ref qp1_ (y47_.2.1 _ finC_27).2.1)).1.2.2.2.2.2.1 (by decide) (by decide)
              have t285_ : (qN S73_270 (qO S73_270 (qO S73_270 16 9) 0) : Int) = (qN S (qO S (qO S 16 9) 0) : Int) := by rw [o278_]; exact f271_.kL (j := 0) y47_ (y47_.ref qp1_ (y47_.2.1 _ finC_27).2.1) (g.row (y47_.ref qp1_ (y47_.2.1 _ finC_27).2.1)).1.1 (by decide) (by decide)
              have t286_ : (qN S73_270 (qO S73_270 (qO S73_270 16 9) 6) : Int) = (qN S (qO S (qO S 16 9) 6) : Int) := by rw [o278_]; exact f271_.kL (j := 6) y47_ (y47_.ref qp1_ (y47_.2.1 _ finC_27).2.1) (g.row (y47_.ref qp1_ (y47_.2.1 _ finC_27).2.1)).1.2.2.2.2.1 (by decide) (by decide)
              have t287_ : (qN S73_270 (qO S73_270 (qO S73_270 16 9) 3) : Int) = (qN S (qO S (qO S 16 9) 3) : Int) := by rw [o278_]; exact f271_.kL (j := 3) y47_ (y47_.ref qp1_ (y47_.2.1 _ finC_27).2.1) (g.row (y47_.ref qp1_ (y47_.2.1 _ finC_27).2.1)).1.2.2.1 (by decide) (by decide)
              have t288_ : (qN S73_270 (qO S73_270 (qO S73_270 16 9) 5) : Int) = (qN S (qO S (qO S 16 9) 5) : Int) := by rw [o278_]; exact f271_.kL (j := 5) y47_ (y47_.ref qp1_ (y47_.2.1 _ finC_27).2.1) (g.row (y47_.ref qp1_ (y47_.2.1 _ finC_27).2.1)).1.2.2.2.1 (by decide) (by decide)
              have p289_ : qR S73_270 16 8 = some (qO S73_270 16 8) := f271_.kP (y47_.2.1 _ finC_27).2.1 qp0_ (by decide) (by decide)
              have p290_ : qR S73_270 16 9 = some (qO S73_270 16 9) := f271_.kP (y47_.2.1 _ finC_27).2.1 qp1_ (by decide) (by decide)
              have t291_ : (qI S73_270 16 6).toInt = ((qI S 16 6) ||| (1 : Int32)).toInt := by rw [eS73_270, qI_wI, if_pos ⟨rfl, rfl⟩]
              have g : ShC B S73_270 := ShC.ws y47_ g f271_ (by rw [eS73_270]; rfl) (by rw [eS73_270]; rfl) (by rw [eS73_270]; rfl) rfl rfl
              exact ⟨g, trivial⟩
          · refine ⟨?_, ?_⟩
            · exact qp0_
            refine ⟨?_, ?_⟩
            · exact qp1_
            refine ⟨?_, ?_⟩
            · exact (dd_X10_takes y42_ g (y42_.ref qp0_ (y42_.2.1 _ finC_27).2.1) (y42_.ref qp1_ (y42_.2.1 _ finC_27).2.1))
            intro a25_292 ea25_292 
            have ga25_292 := congrArg Int32.toInt ea25_292
            refine ⟨(a25_292.toInt + 2147483649).toNat + 1, ?_⟩
            refine sg_X1_goThrough_L131  _ g qp0_ qp1_ ?_
            · have s293_ := (g.unit (y42_.ref qp0_ (y42_.2.1 _ finC_27).2.1)).2
              have s294_ := (g.row (y42_.ref qp1_ (y42_.2.1 _ finC_27).2.1)).2
              have s295_ := g.chk
              unfold ChKk at s295_
              have n1_ := rgI a25_292
              have n2_ := rgI a6_139
              have n3_ := rgI (fX8_opAt S (qO S 16 9) x1)
              have n4_ := rgI a10_240
              have n5_ := rgI (fX6_isLoad S a6_139)
              have n6_ := rgI a15_242
              have n7_ := rgI (fX6_isStore S a6_139)
              have n8_ := rgI (fX10_takes S (qO S 16 8) (qO S 16 9) x1)
              omega
        · refine ⟨?_, ?_⟩
          · exact qp1_
          refine ⟨?_, ?_⟩
          · exact (dd_X8_localOf y42_ g (y42_.ref qp1_ (y42_.2.1 _ finC_27).2.1))
          intro a80_296 ea80_296 
          have ga80_296 := congrArg Int32.toInt ea80_296
          refine ⟨_, frX1_store y42_ (sfX1_store y42_ ), ?_⟩
          intro S82_297 q51_ y52_ y53_
          have o298_ : qO S82_297 16 8 = qO S 16 8 := qO_eq (q51_.2.kO (y42_.2.1 _ finC_27).2.1 (by decide) (by decide))
          have t299_ : (qI S82_297 (qO S82_297 16 8) 8).toInt = (qI S (qO S 16 8) 8).toInt := by rw [o298_]; exact congrArg Int32.toInt (q51_.2.kI (j := 8) (y42_.ref qp0_ (y42_.2.1 _ finC_27).2.1) (by decide) (by decide))
          have t300_ : (qI S82_297 (qO S82_297 16 8) 4).toInt = (qI S (qO S 16 8) 4).toInt := by rw [o298_]; exact congrArg Int32.toInt (q51_.2.kI (j := 4) (y42_.ref qp0_ (y42_.2.1 _ finC_27).2.1) (by decide) (by decide))
          have t301_ : (qN S82_297 (qO S82_297 (qO S82_297 16 8) 13) : Int) = (qN S (qO S (qO S 16 8) 13) : Int) := by rw [o298_]; exact q51_.2.kL (j := 13) y42_ (y42_.ref qp0_ (y42_.2.1 _ finC_27).2.1) (g.unit (y42_.ref qp0_ (y42_.2.1 _ finC_27).2.1)).1.2.2.2.2.2.2.2.2 (by decide) (by decide)
          have t302_ : (qN S82_297 (qO S82_297 (qO S82_297 16 8) 9) : Int) = (qN S (qO S (qO S 16 8) 9) : Int) := by rw [o298_]; exact q51_.2.kL (j := 9) y42_ (y42_.ref qp0_ (y42_.2.1 _ finC_27).2.1) (g.unit (y42_.ref qp0_ (y42_.2.1 _ finC_27).2.1)).1.2.2.2.2.1 (by decide) (by decide)
          have t303_ : (qN S82_297 (qO S82_297 (qO S82_297 16 8) 5) : Int) = (qN S (qO S (qO S 16 8) 5) : Int) := by rw [o298_]; exact q51_.2.kL (j := 5) y42_ (y42_.ref qp0_ (y42_.2.1 _ finC_27).2.1) (g.unit (y42_.ref qp0_ (y42_.2.1 _ finC_27).2.1)).1.2.1 (by decide) (by decide)
          have o304_ : qO S82_297 16 9 = qO S 16 9 := qO_eq (q51_.2.kO (y42_.2.1 _ finC_27).2.1 (by decide) (by decide))
          have t305_ : (qI S82_297 (qO S82_297 16 9) 4).toInt = (qI S (qO S 16 9) 4).toInt := by rw [o304_]; exact congrArg Int32.toInt (q51_.2.kI (j := 4) (y42_.ref qp1_ (y42_.2.1 _ finC_27).2.1) (by decide) (by decide))
          have t306_ : (qI S82_297 (qO S82_297 16 9) 9).toInt = (qI S (qO S 16 9) 9).toInt := by rw [o304_]; exact congrArg Int32.toInt (q51_.2.kI (j := 9) (y42_.ref qp1_ (y42_.2.1 _ finC_27).2.1) (by decide) (by decide))
          have t307_ : (qI S82_297 (qO S82_297 16 9) 2).toInt = (qI S (qO S 16 9) 2).toInt := by rw [o304_]; exact congrArg Int32.toInt (q51_.2.kI (j := 2) (y42_.ref qp1_ (y42_.2.1 _ finC_27).2.1) (by decide) (by decide))
          have t308_ : (qN S82_297 (qO S82_297 (qO S82_297 16 9) 1) : Int) = (qN S (qO S (qO S 16 9) 1) : Int) := by rw [o304_]; exact q51_.2.kL (j := 1) y42_ (y42_.ref qp1_ (y42_.2.1 _ finC_27).2.1) (g.row (y42_.ref qp1_ (y42_.2.1 _ finC_27).2.1)).1.2.1 (by decide) (by decide)
          have t309_ : (qN S82_297 (qO S82_297 (qO S82_297 16 9) 8) : Int) = (qN S (qO S (qO S 16 9) 8) : Int) := by rw [o304_]; exact q51_.2.kL (j := 8) y42_ (y42_.ref qp1_ (y42_.2.1 _ finC_27).2.1) (g.row (y42_.ref qp1_ (y42_.2.1 _ finC_27).2.1)).1.2.2.2.2.2.2 (by decide) (by decide)
          have t310_ : (qN S82_297 (qO S82_297 (qO S82_297 16 9) 7) : Int) = (qN S (qO S (qO S 16 9) 7) : Int) := by rw [o304_]; exact q51_.2.kL (j := 7) y42_ (y42_.ref qp1_ (y42_.2.1 _ finC_27).2.1) (g.row (y42_.ref qp1_ (y42_.2.1 _ finC_27).2.1)).1.2.2.2.2.2.1 (by decide) (by decide)
          have t311_ : (qN S82_297 (qO S82_297 (qO S82_297 16 9) 0) : Int) = (qN S (qO S (qO S 16 9) 0) : Int) := by rw [o304_]; exact q51_.2.kL (j := 0) y42_ (y42_.ref qp1_ (y42_.2.1 _ finC_27).2.1) (g.row (y42_.ref qp1_ (y42_.2.1 _ finC_27).2.1)).1.1 (by decide) (by decide)
          have t312_ : (qN S82_297 (qO S82_297 (qO S82_297 16 9) 6) : Int) = (qN S (qO S (qO S 16 9) 6) : Int) := by rw [o304_]; exact q51_.2.kL (j := 6) y42_ (y42_.ref qp1_ (y42_.2.1 _ finC_27).2.1) (g.row (y42_.ref qp1_ (y42_.2.1 _ finC_27).2.1)).1.2.2.2.2.1 (by decide) (by decide)
          have t313_ : (qN S82_297 (qO S82_297 (qO S82_297 16 9) 3) : Int) = (qN S (qO S (qO S 16 9) 3) : Int) := by rw [o304_]; exact q51_.2.kL (j := 3) y42_ (y42_.ref qp1_ (y42_.2.1 _ finC_27).2.1) (g.row (y42_.ref qp1_ (y42_.2.1 _ finC_27).2.1)).1.2.2.1 (by decide) (by decide)
          have t314_ : (qN S82_297 (qO S82_297 (qO S82_297 16 9) 5) : Int) = (qN S (qO S (qO S 16 9) 5) : Int) := by rw [o304_]; exact q51_.2.kL (j := 5) y42_ (y42_.ref qp1_ (y42_.2.1 _ finC_27).2.1) (g.row (y42_.ref qp1_ (y42_.2.1 _ finC_27).2.1)).1.2.2.2.1 (by decide) (by decide)
          have p315_ : qR S82_297 16 8 = some (qO S82_297 16 8) := q51_.2.kP (y42_.2.1 _ finC_27).2.1 qp0_ (by decide) (by decide)
          have p316_ : qR S82_297 16 9 = some (qO S82_297 16 9) := q51_.2.kP (y42_.2.1 _ finC_27).2.1 qp1_ (by decide) (by decide)
          have g : ShC B S82_297 := ShC.ca y42_ g q51_.2 y53_ y52_ rfl rfl
          exact ⟨g, trivial⟩
      · refine ⟨?_, ?_⟩
        · exact qp1_
        refine ⟨?_, ?_⟩
        · exact (dd_X8_localOf y42_ g (y42_.ref qp1_ (y42_.2.1 _ finC_27).2.1))
        intro a89_317 ea89_317 
        have ga89_317 := congrArg Int32.toInt ea89_317
        refine ⟨_, frX1_load y42_ (sfX1_load y42_ ), ?_⟩
        intro S91_318 q54_ y55_ y56_
        have o319_ : qO S91_318 16 8 = qO S 16 8 := qO_eq (q54_.2.kO (y42_.2.1 _ finC_27).2.1 (by decide) (by decide))
        have t320_ : (qI S91_318 (qO S91_318 16 8) 8).toInt = (qI S (qO S 16 8) 8).toInt := by rw [o319_]; exact congrArg Int32.toInt (q54_.2.kI (j := 8) (y42_.ref qp0_ (y42_.2.1 _ finC_27).2.1) (by decide) (by decide))
        have t321_ : (qI S91_318 (qO S91_318 16 8) 4).toInt = (qI S (qO S 16 8) 4).toInt := by rw [o319_]; exact congrArg Int32.toInt (q54_.2.kI (j := 4) (y42_.ref qp0_ (y42_.2.1 _ finC_27).2.1) (by decide) (by decide))
        have t322_ : (qN S91_318 (qO S91_318 (qO S91_318 16 8) 13) : Int) = (qN S (qO S (qO S 16 8) 13) : Int) := by rw [o319_]; exact q54_.2.kL (j := 13) y42_ (y42_.ref qp0_ (y42_.2.1 _ finC_27).2.1) (g.unit (y42_.ref qp0_ (y42_.2.1 _ finC_27).2.1)).1.2.2.2.2.2.2.2.2 (by decide) (by decide)
        have t323_ : (qN S91_318 (qO S91_318 (qO S91_318 16 8) 9) : Int) = (qN S (qO S (qO S 16 8) 9) : Int) := by rw [o319_]; exact q54_.2.kL (j := 9) y42_ (y42_.ref qp0_ (y42_.2.1 _ finC_27).2.1) (g.unit (y42_.ref qp0_ (y42_.2.1 _ finC_27).2.1)).1.2.2.2.2.1 (by decide) (by decide)
        have t324_ : (qN S91_318 (qO S91_318 (qO S91_318 16 8) 5) : Int) = (qN S (qO S (qO S 16 8) 5) : Int) := by rw [o319_]; exact q54_.2.kL (j := 5) y42_ (y42_.ref qp0_ (y42_.2.1 _ finC_27).2.1) (g.unit (y42_.ref qp0_ (y42_.2.1 _ finC_27).2.1)).1.2.1 (by decide) (by decide)
        have o325_ : qO S91_318 16 9 = qO S 16 9 := qO_eq (q54_.2.kO (y42_.2.1 _ finC_27).2.1 (by decide) (by decide))
        have t326_ : (qI S91_318 (qO S91_318 16 9) 4).toInt = (qI S (qO S 16 9) 4).toInt := by rw [o325_]; exact congrArg Int32.toInt (q54_.2.kI (j := 4) (y42_.ref qp1_ (y42_.2.1 _ finC_27).2.1) (by decide) (by decide))
        have t327_ : (qI S91_318 (qO S91_318 16 9) 9).toInt = (qI S (qO S 16 9) 9).toInt := by rw [o325_]; exact congrArg Int32.toInt (q54_.2.kI (j := 9) (y42_.ref qp1_ (y42_.2.1 _ finC_27).2.1) (by decide) (by decide))
        have t328_ : (qI S91_318 (qO S91_318 16 9) 2).toInt = (qI S (qO S 16 9) 2).toInt := by rw [o325_]; exact congrArg Int32.toInt (q54_.2.kI (j := 2) (y42_.ref qp1_ (y42_.2.1 _ finC_27).2.1) (by decide) (by decide))
        have t329_ : (qN S91_318 (qO S91_318 (qO S91_318 16 9) 1) : Int) = (qN S (qO S (qO S 16 9) 1) : Int) := by rw [o325_]; exact q54_.2.kL (j := 1) y42_ (y42_.ref qp1_ (y42_.2.1 _ finC_27).2.1) (g.row (y42_.ref qp1_ (y42_.2.1 _ finC_27).2.1)).1.2.1 (by decide) (by decide)
        have t330_ : (qN S91_318 (qO S91_318 (qO S91_318 16 9) 8) : Int) = (qN S (qO S (qO S 16 9) 8) : Int) := by rw [o325_]; exact q54_.2.kL (j := 8) y42_ (y42_.ref qp1_ (y42_.2.1 _ finC_27).2.1) (g.row (y42_.ref qp1_ (y42_.2.1 _ finC_27).2.1)).1.2.2.2.2.2.2 (by decide) (by decide)
        have t331_ : (qN S91_318 (qO S91_318 (qO S91_318 16 9) 7) : Int) = (qN S (qO S (qO S 16 9) 7) : Int) := by rw [o325_]; exact q54_.2.kL (j := 7) y42_ (y42_.ref qp1_ (y42_.2.1 _ finC_27).2.1) (g.row (y42_.ref qp1_ (y42_.2.1 _ finC_27).2.1)).1.2.2.2.2.2.1 (by decide) (by decide)
        have t332_ : (qN S91_318 (qO S91_318 (qO S91_318 16 9) 0) : Int) = (qN S (qO S (qO S 16 9) 0) : Int) := by rw [o325_]; exact q54_.2.kL (j := 0) y42_ (y42_.ref qp1_ (y42_.2.1 _ finC_27).2.1) (g.row (y42_.ref qp1_ (y42_.2.1 _ finC_27).2.1)).1.1 (by decide) (by decide)
        have t333_ : (qN S91_318 (qO S91_318 (qO S91_318 16 9) 6) : Int) = (qN S (qO S (qO S 16 9) 6) : Int) := by rw [o325_]; exact q54_.2.kL (j := 6) y42_ (y42_.ref qp1_ (y42_.2.1 _ finC_27).2.1) (g.row (y42_.ref qp1_ (y42_.2.1 _ finC_27).2.1)).1.2.2.2.2.1 (by decide) (by decide)
        have t334_ : (qN S91_318 (qO S91_318 (qO S91_318 16 9) 3) : Int) = (qN S (qO S (qO S 16 9) 3) : Int) := by rw [o325_]; exact q54_.2.kL (j := 3) y42_ (y42_.ref qp1_ (y42_.2.1 _ finC_27).2.1) (g.row (y42_.ref qp1_ (y42_.2.1 _ finC_27).2.1)).1.2.2.1 (by decide) (by decide)
        have t335_ : (qN S91_318 (qO S91_318 (qO S91_318 16 9) 5) : Int) = (qN S (qO S (qO S 16 9) 5) : Int) := by rw [o325_]; exact q54_.2.kL (j := 5) y42_ (y42_.ref qp1_ (y42_.2.1 _ finC_27).2.1) (g.row (y42_.ref qp1_ (y42_.2.1 _ finC_27).2.1)).1.2.2.2.1 (by decide) (by decide)
        have p336_ : qR S91_318 16 8 = some (qO S91_318 16 8) := q54_.2.kP (y42_.2.1 _ finC_27).2.1 qp0_ (by decide) (by decide)
        have p337_ : qR S91_318 16 9 = some (qO S91_318 16 9) := q54_.2.kP (y42_.2.1 _ finC_27).2.1 qp1_ (by decide) (by decide)
        have g : ShC B S91_318 := ShC.ca y42_ g q54_.2 y56_ y55_ rfl rfl
        exact ⟨g, trivial⟩
    · refine ⟨_, frX1_shuffle hw (sfX1_shuffle hw ), ?_⟩
      intro S96_338 q57_ y58_ y59_
      have o339_ : qO S96_338 16 8 = qO S 16 8 := qO_eq (q57_.2.kO (hw.2.1 _ finC_27).2.1 (by decide) (by decide))
      have t340_ : (qI S96_338 (qO S96_338 16 8) 8).toInt = (qI S (qO S 16 8) 8).toInt := by rw [o339_]; exact congrArg Int32.toInt (q57_.2.kI (j := 8) (hw.ref qp0_ (hw.2.1 _ finC_27).2.1) (by decide) (by decide))
      have t341_ : (qI S96_338 (qO S96_338 16 8) 4).toInt = (qI S (qO S 16 8) 4).toInt := by rw [o339_]; exact congrArg Int32.toInt (q57_.2.kI (j := 4) (hw.ref qp0_ (hw.2.1 _ finC_27).2.1) (by decide) (by decide))
      have t342_ : (qN S96_338 (qO S96_338 (qO S96_338 16 8) 13) : Int) = (qN S (qO S (qO S 16 8) 13) : Int) := by rw [o339_]; exact q57_.2.kL (j := 13) hw (hw.ref qp0_ (hw.2.1 _ finC_27).2.1) (g.unit (hw.ref qp0_ (hw.2.1 _ finC_27).2.1)).1.2.2.2.2.2.2.2.2 (by decide) (by decide)
      have t343_ : (qN S96_338 (qO S96_338 (qO S96_338 16 8) 9) : Int) = (qN S (qO S (qO S 16 8) 9) : Int) := by rw [o339_]; exact q57_.2.kL (j := 9) hw (hw.ref qp0_ (hw.2.1 _ finC_27).2.1) (g.unit (hw.ref qp0_ (hw.2.1 _ finC_27).2.1)).1.2.2.2.2.1 (by decide) (by decide)
      have t344_ : (qN S96_338 (qO S96_338 (qO S96_338 16 8) 5) : Int) = (qN S (qO S (qO S 16 8) 5) : Int) := by rw [o339_]; exact q57_.2.kL (j := 5) hw (hw.ref qp0_ (hw.2.1 _ finC_27).2.1) (g.unit (hw.ref qp0_ (hw.2.1 _ finC_27).2.1)).1.2.1 (by decide) (by decide)
      have o345_ : qO S96_338 16 9 = qO S 16 9 := qO_eq (q57_.2.kO (hw.2.1 _ finC_27).2.1 (by decide) (by decide))
      have t346_ : (qI S96_338 (qO S96_338 16 9) 4).toInt = (qI S (qO S 16 9) 4).toInt := by rw [o345_]; exact congrArg Int32.toInt (q57_.2.kI (j := 4) (hw.ref qp1_ (hw.2.1 _ finC_27).2.1) (by decide) (by decide))
      have t347_ : (qI S96_338 (qO S96_338 16 9) 9).toInt = (qI S (qO S 16 9) 9).toInt := by rw [o345_]; exact congrArg Int32.toInt (q57_.2.kI (j := 9) (hw.ref qp1_ (hw.2.1 _ finC_27).2.1) (by decide) (by decide))
      have t348_ : (qI S96_338 (qO S96_338 16 9) 2).toInt = (qI S (qO S 16 9) 2).toInt := by rw [o345_]; exact congrArg Int32.toInt (q57_.2.kI (j := 2) (hw.ref qp1_ (hw.2.1 _ finC_27).2.1) (by decide) (by decide))
      have t349_ : (qN S96_338 (qO S96_338 (qO S96_338 16 9) 1) : Int) = (qN S (qO S (qO S 16 9) 1) : Int) := by rw [o345_]; exact q57_.2.kL (j := 1) hw (hw.ref qp1_ (hw.2.1 _ finC_27).2.1) (g.row (hw.ref qp1_ (hw.2.1 _ finC_27).2.1)).1.2.1 (by decide) (by decide)
      have t350_ : (qN S96_338 (qO S96_338 (qO S96_338 16 9) 8) : Int) = (qN S (qO S (qO S 16 9) 8) : Int) := by rw [o345_]; exact q57_.2.kL (j := 8) hw (hw.ref qp1_ (hw.2.1 _ finC_27).2.1) (g.row (hw.ref qp1_ (hw.2.1 _ finC_27).2.1)).1.2.2.2.2.2.2 (by decide) (by decide)
      have t351_ : (qN S96_338 (qO S96_338 (qO S96_338 16 9) 7) : Int) = (qN S (qO S (qO S 16 9) 7) : Int) := by rw [o345_]; exact q57_.2.kL (j := 7) hw (hw.ref qp1_ (hw.2.1 _ finC_27).2.1) (g.row (hw.ref qp1_ (hw.2.1 _ finC_27).2.1)).1.2.2.2.2.2.1 (by decide) (by decide)
      have t352_ : (qN S96_338 (qO S96_338 (qO S96_338 16 9) 0) : Int) = (qN S (qO S (qO S 16 9) 0) : Int) := by rw [o345_]; exact q57_.2.kL (j := 0) hw (hw.ref qp1_ (hw.2.1 _ finC_27).2.1) (g.row (hw.ref qp1_ (hw.2.1 _ finC_27).2.1)).1.1 (by decide) (by decide)
      have t353_ : (qN S96_338 (qO S96_338 (qO S96_338 16 9) 6) : Int) = (qN S (qO S (qO S 16 9) 6) : Int) := by rw [o345_]; exact q57_.2.kL (j := 6) hw (hw.ref qp1_ (hw.2.1 _ finC_27).2.1) (g.row (hw.ref qp1_ (hw.2.1 _ finC_27).2.1)).1.2.2.2.2.1 (by decide) (by decide)
      have t354_ : (qN S96_338 (qO S96_338 (qO S96_338 16 9) 3) : Int) = (qN S (qO S (qO S 16 9) 3) : Int) := by rw [o345_]; exact q57_.2.kL (j := 3) hw (hw.ref qp1_ (hw.2.1 _ finC_27).2.1) (g.row (hw.ref qp1_ (hw.2.1 _ finC_27).2.1)).1.2.2.1 (by decide) (by decide)
      have t355_ : (qN S96_338 (qO S96_338 (qO S96_338 16 9) 5) : Int) = (qN S (qO S (qO S 16 9) 5) : Int) := by rw [o345_]; exact q57_.2.kL (j := 5) hw (hw.ref qp1_ (hw.2.1 _ finC_27).2.1) (g.row (hw.ref qp1_ (hw.2.1 _ finC_27).2.1)).1.2.2.2.1 (by decide) (by decide)
      have p356_ : qR S96_338 16 8 = some (qO S96_338 16 8) := q57_.2.kP (hw.2.1 _ finC_27).2.1 qp0_ (by decide) (by decide)
      have p357_ : qR S96_338 16 9 = some (qO S96_338 16 9) := q57_.2.kP (hw.2.1 _ finC_27).2.1 qp1_ (by decide) (by decide)
      have g : ShC B S96_338 := ShC.ca hw g q57_.2 y59_ y58_ rfl rfl
      exact ⟨g, trivial⟩
set_option maxRecDepth 100000 in
theorem sg_X1_beginBody_L46 {B : Nat × Nat} : ∀ (n : Nat) {U46 : MS} {v46_1 : Int32} {v46_2 : Int32} {v46_3 : Int32} {v46_4 : Int32}, ShC B U46 → qR U46 16 8 = some (qO U46 16 8) → qR U46 16 9 = some (qO U46 16 9) → 0 ≤ v46_4.toInt → (qI U46 (qO U46 16 9) 2).toInt ≤ (qN U46 (qO U46 16 2) : Int) → 2147483648 - v46_4.toInt < n → w_X1_beginBody_L46 (fun u => ShC B u ∧ (True)) n U46 v46_1 v46_2 v46_3 v46_4 := by
  intro n
  induction n with
  | zero => intro U46 v46_1 v46_2 v46_3 v46_4 g h0_ h1_ j0_ j1_ hm_; exfalso; have := rgI v46_1; have := rgI v46_2; have := rgI v46_3; have := rgI v46_4; omega
  | succ n ih46 =>
    intro U46 v46_1 v46_2 v46_3 v46_4 g h0_ h1_ j0_ j1_ hm_
    unfold w_X1_beginBody_L46
    intro y1_
    refine ⟨fun c0_ => ?_, fun c0_ => ?_⟩
    · intro S15_1 eS15_1 y2_ y3_
      have f2_ : cfr [] [(41, 5)] U46 S15_1 := by rw [eS15_1]; exact cfr.oI y2_ (by decide)
      have o3_ : qO S15_1 16 8 = qO U46 16 8 := qO_eq (f2_.kO (y1_.2.1 _ finC_27).2.1 (by decide) (by decide))
      have t4_ : (qI S15_1 (qO S15_1 16 8) 8).toInt = (qI U46 (qO U46 16 8) 8).toInt := by rw [o3_]; exact congrArg Int32.toInt (f2_.kI (j := 8) (y1_.ref h0_ (y1_.2.1 _ finC_27).2.1) (by decide) (by decide))
      have t5_ : (qI S15_1 (qO S15_1 16 8) 4).toInt = (qI U46 (qO U46 16 8) 4).toInt := by rw [o3_]; exact congrArg Int32.toInt (f2_.kI (j := 4) (y1_.ref h0_ (y1_.2.1 _ finC_27).2.1) (by decide) (by decide))
      have t6_ : (qN S15_1 (qO S15_1 (qO S15_1 16 8) 13) : Int) = (qN U46 (qO U46 (qO U46 16 8) 13) : Int) := by rw [o3_]; exact f2_.kL (j := 13) y1_ (y1_.ref h0_ (y1_.2.1 _ finC_27).2.1) (g.unit (y1_.ref h0_ (y1_.2.1 _ finC_27).2.1)).1.2.2.2.2.2.2.2.2 (by decide) (by decide)
      have t7_ : (qN S15_1 (qO S15_1 (qO S15_1 16 8) 9) : Int) = (qN U46 (qO U46 (qO U46 16 8) 9) : Int) := by rw [o3_]; exact f2_.kL (j := 9) y1_ (y1_.ref h0_ (y1_.2.1 _ finC_27).2.1) (g.unit (y1_.ref h0_ (y1_.2.1 _ finC_27).2.1)).1.2.2.2.2.1 (by decide) (by decide)
      have t8_ : (qN S15_1 (qO S15_1 (qO S15_1 16 8) 5) : Int) = (qN U46 (qO U46 (qO U46 16 8) 5) : Int) := by rw [o3_]; exact f2_.kL (j := 5) y1_ (y1_.ref h0_ (y1_.2.1 _ finC_27).2.1) (g.unit (y1_.ref h0_ (y1_.2.1 _ finC_27).2.1)).1.2.1 (by decide) (by decide)
      have o9_ : qO S15_1 16 9 = qO U46 16 9 := qO_eq (f2_.kO (y1_.2.1 _ finC_27).2.1 (by decide) (by decide))
      have t10_ : (qI S15_1 (qO S15_1 16 9) 4).toInt = (qI U46 (qO U46 16 9) 4).toInt := by rw [o9_]; exact congrArg Int32.toInt (f2_.kI (j := 4) (y1_.ref h1_ (y1_.2.1 _ finC_27).2.1) (by decide) (by decide))
      have t11_ : (qI S15_1 (qO S15_1 16 9) 9).toInt = (qI U46 (qO U46 16 9) 9).toInt := by rw [o9_]; exact congrArg Int32.toInt (f2_.kI (j := 9) (y1_.ref h1_ (y1_.2.1 _ finC_27).2.1) (by decide) (by decide))
      have t12_ : (qI S15_1 (qO S15_1 16 9) 2).toInt = (qI U46 (qO U46 16 9) 2).toInt := by rw [o9_]; exact congrArg Int32.toInt (f2_.kI (j := 2) (y1_.ref h1_ (y1_.2.1 _ finC_27).2.1) (by decide) (by decide))
      have t13_ : (qN S15_1 (qO S15_1 (qO S15_1 16 9) 1) : Int) = (qN U46 (qO U46 (qO U46 16 9) 1) : Int) := by rw [o9_]; exact f2_.kL (j := 1) y1_ (y1_.ref h1_ (y1_.2.1 _ finC_27).2.1) (g.row (y1_.ref h1_ (y1_.2.1 _ finC_27).2.1)).1.2.1 (by decide) (by decide)
      have t14_ : (qN S15_1 (qO S15_1 (qO S15_1 16 9) 8) : Int) = (qN U46 (qO U46 (qO U46 16 9) 8) : Int) := by rw [o9_]; exact f2_.kL (j := 8) y1_ (y1_.ref h1_ (y1_.2.1 _ finC_27).2.1) (g.row (y1_.ref h1_ (y1_.2.1 _ finC_27).2.1)).1.2.2.2.2.2.2 (by decide) (by decide)
      have t15_ : (qN S15_1 (qO S15_1 (qO S15_1 16 9) 7) : Int) = (qN U46 (qO U46 (qO U46 16 9) 7) : Int) := by rw [o9_]; exact f2_.kL (j := 7) y1_ (y1_.ref h1_ (y1_.2.1 _ finC_27).2.1) (g.row (y1_.ref h1_ (y1_.2.1 _ finC_27).2.1)).1.2.2.2.2.2.1 (by decide) (by decide)
      have t16_ : (qN S15_1 (qO S15_1 (qO S15_1 16 9) 0) : Int) = (qN U46 (qO U46 (qO U46 16 9) 0) : Int) := by rw [o9_]; exact f2_.kL (j := 0) y1_ (y1_.ref h1_ (y1_.2.1 _ finC_27).2.1) (g.row (y1_.ref h1_ (y1_.2.1 _ finC_27).2.1)).1.1 (by decide) (by decide)
      have t17_ : (qN S15_1 (qO S15_1 (qO S15_1 16 9) 6) : Int) = (qN U46 (qO U46 (qO U46 16 9) 6) : Int) := by rw [o9_]; exact f2_.kL (j := 6) y1_ (y1_.ref h1_ (y1_.2.1 _ finC_27).2.1) (g.row (y1_.ref h1_ (y1_.2.1 _ finC_27).2.1)).1.2.2.2.2.1 (by decide) (by decide)
      have t18_ : (qN S15_1 (qO S15_1 (qO S15_1 16 9) 3) : Int) = (qN U46 (qO U46 (qO U46 16 9) 3) : Int) := by rw [o9_]; exact f2_.kL (j := 3) y1_ (y1_.ref h1_ (y1_.2.1 _ finC_27).2.1) (g.row (y1_.ref h1_ (y1_.2.1 _ finC_27).2.1)).1.2.2.1 (by decide) (by decide)
      have t19_ : (qN S15_1 (qO S15_1 (qO S15_1 16 9) 5) : Int) = (qN U46 (qO U46 (qO U46 16 9) 5) : Int) := by rw [o9_]; exact f2_.kL (j := 5) y1_ (y1_.ref h1_ (y1_.2.1 _ finC_27).2.1) (g.row (y1_.ref h1_ (y1_.2.1 _ finC_27).2.1)).1.2.2.2.1 (by decide) (by decide)
      have t20_ : (qN S15_1 (qO S15_1 16 2) : Int) = (qN U46 (qO U46 16 2) : Int) := f2_.kL (j := 2) y1_ (y1_.2.1 _ finC_27).2.1 (y1_.ptr ptrC_5) (by decide) (by decide)
      have p21_ : qR S15_1 16 8 = some (qO S15_1 16 8) := f2_.kP (y1_.2.1 _ finC_27).2.1 h0_ (by decide) (by decide)
      have p22_ : qR S15_1 16 9 = some (qO S15_1 16 9) := f2_.kP (y1_.2.1 _ finC_27).2.1 h1_ (by decide) (by decide)
      have t23_ : (qI S15_1 16 5).toInt = (0 : Int32).toInt := by rw [eS15_1, qI_wI, if_pos ⟨rfl, rfl⟩]
      have g : ShC B S15_1 := ShC.ws y1_ g f2_ (by rw [eS15_1]; rfl) (by rw [eS15_1]; rfl) (by rw [eS15_1]; rfl) rfl rfl
      refine ⟨_, frX1_comeTo y3_ (sgX1_comeTo y3_ g p22_ (by have s25_ := (g.unit (y3_.ref p21_ (y3_.2.1 _ finC_27).2.1)).2; have s26_ := (g.row (y3_.ref p22_ (y3_.2.1 _ finC_27).2.1)).2; have s27_ := y3_.len9 (y3_.ref (y3_.ptr ptrC_5) (y3_.2.1 _ finC_27).2.1) (by decide); have s28_ := g.chk; unfold ChKk at s28_; have n1_ := rgI (qI S15_1 (qO S15_1 16 9) 2); have n2_ := rgI v46_4; have n3_ := rgI (qI U46 (qO U46 16 9) 2); have n4_ := rgI v46_2; have n5_ := rgI (qI S15_1 16 5); have n6_ := li_0k; omega)), ?_⟩
      intro S17_24 q4_ y5_ y6_
      have o29_ : qO S17_24 16 8 = qO S15_1 16 8 := qO_eq (q4_.2.kO (y3_.2.1 _ finC_27).2.1 (by decide) (by decide))
      have t30_ : (qI S17_24 (qO S17_24 16 8) 8).toInt = (qI S15_1 (qO S15_1 16 8) 8).toInt := by rw [o29_]; exact congrArg Int32.toInt (q4_.2.kI (j := 8) (y3_.ref p21_ (y3_.2.1 _ finC_27).2.1) (by decide) (by decide))
      have t31_ : (qI S17_24 (qO S17_24 16 8) 4).toInt = (qI S15_1 (qO S15_1 16 8) 4).toInt := by rw [o29_]; exact congrArg Int32.toInt (q4_.2.kI (j := 4) (y3_.ref p21_ (y3_.2.1 _ finC_27).2.1) (by decide) (by decide))
      have t32_ : (qN S17_24 (qO S17_24 (qO S17_24 16 8) 13) : Int) = (qN S15_1 (qO S15_1 (qO S15_1 16 8) 13) : Int) := by rw [o29_]; exact q4_.2.kL (j := 13) y3_ (y3_.ref p21_ (y3_.2.1 _ finC_27).2.1) (g.unit (y3_.ref p21_ (y3_.2.1 _ finC_27).2.1)).1.2.2.2.2.2.2.2.2 (by decide) (by decide)
      have t33_ : (qN S17_24 (qO S17_24 (qO S17_24 16 8) 9) : Int) = (qN S15_1 (qO S15_1 (qO S15_1 16 8) 9) : Int) := by rw [o29_]; exact q4_.2.kL (j := 9) y3_ (y3_.ref p21_ (y3_.2.1 _ finC_27).2.1) (g.unit (y3_.ref p21_ (y3_.2.1 _ finC_27).2.1)).1.2.2.2.2.1 (by decide) (by decide)
      have t34_ : (qN S17_24 (qO S17_24 (qO S17_24 16 8) 5) : Int) = (qN S15_1 (qO S15_1 (qO S15_1 16 8) 5) : Int) := by rw [o29_]; exact q4_.2.kL (j := 5) y3_ (y3_.ref p21_ (y3_.2.1 _ finC_27).2.1) (g.unit (y3_.ref p21_ (y3_.2.1 _ finC_27).2.1)).1.2.1 (by decide) (by decide)
      have o35_ : qO S17_24 16 9 = qO S15_1 16 9 := qO_eq (q4_.2.kO (y3_.2.1 _ finC_27).2.1 (by decide) (by decide))
      have t36_ : (qI S17_24 (qO S17_24 16 9) 4).toInt = (qI S15_1 (qO S15_1 16 9) 4).toInt := by rw [o35_]; exact congrArg Int32.toInt (q4_.2.kI (j := 4) (y3_.ref p22_ (y3_.2.1 _ finC_27).2.1) (by decide) (by decide))
      have t37_ : (qI S17_24 (qO S17_24 16 9) 9).toInt = (qI S15_1 (qO S15_1 16 9) 9).toInt := by rw [o35_]; exact congrArg Int32.toInt (q4_.2.kI (j := 9) (y3_.ref p22_ (y3_.2.1 _ finC_27).2.1) (by decide) (by decide))
      have t38_ : (qI S17_24 (qO S17_24 16 9) 2).toInt = (qI S15_1 (qO S15_1 16 9) 2).toInt := by rw [o35_]; exact congrArg Int32.toInt (q4_.2.kI (j := 2) (y3_.ref p22_ (y3_.2.1 _ finC_27).2.1) (by decide) (by decide))
      have t39_ : (qN S17_24 (qO S17_24 (qO S17_24 16 9) 1) : Int) = (qN S15_1 (qO S15_1 (qO S15_1 16 9) 1) : Int) := by rw [o35_]; exact q4_.2.kL (j := 1) y3_ (y3_.ref p22_ (y3_.2.1 _ finC_27).2.1) (g.row (y3_.ref p22_ (y3_.2.1 _ finC_27).2.1)).1.2.1 (by decide) (by decide)
      have t40_ : (qN S17_24 (qO S17_24 (qO S17_24 16 9) 8) : Int) = (qN S15_1 (qO S15_1 (qO S15_1 16 9) 8) : Int) := by rw [o35_]; exact q4_.2.kL (j := 8) y3_ (y3_.ref p22_ (y3_.2.1 _ finC_27).2.1) (g.row (y3_.ref p22_ (y3_.2.1 _ finC_27).2.1)).1.2.2.2.2.2.2 (by decide) (by decide)
      have t41_ : (qN S17_24 (qO S17_24 (qO S17_24 16 9) 7) : Int) = (qN S15_1 (qO S15_1 (qO S15_1 16 9) 7) : Int) := by rw [o35_]; exact q4_.2.kL (j := 7) y3_ (y3_.ref p22_ (y3_.2.1 _ finC_27).2.1) (g.row (y3_.ref p22_ (y3_.2.1 _ finC_27).2.1)).1.2.2.2.2.2.1 (by decide) (by decide)
      have t42_ : (qN S17_24 (qO S17_24 (qO S17_24 16 9) 0) : Int) = (qN S15_1 (qO S15_1 (qO S15_1 16 9) 0) : Int) := by rw [o35_]; exact q4_.2.kL (j := 0) y3_ (y3_.ref p22_ (y3_.2.1 _ finC_27).2.1) (g.row (y3_.ref p22_ (y3_.2.1 _ finC_27).2.1)).1.1 (by decide) (by decide)
      have t43_ : (qN S17_24 (qO S17_24 (qO S17_24 16 9) 6) : Int) = (qN S15_1 (qO S15_1 (qO S15_1 16 9) 6) : Int) := by rw [o35_]; exact q4_.2.kL (j := 6) y3_ (y3_.ref p22_ (y3_.2.1 _ finC_27).2.1) (g.row (y3_.ref p22_ (y3_.2.1 _ finC_27).2.1)).1.2.2.2.2.1 (by decide) (by decide)
      have t44_ : (qN S17_24 (qO S17_24 (qO S17_24 16 9) 3) : Int) = (qN S15_1 (qO S15_1 (qO S15_1 16 9) 3) : Int) := by rw [o35_]; exact q4_.2.kL (j := 3) y3_ (y3_.ref p22_ (y3_.2.1 _ finC_27).2.1) (g.row (y3_.ref p22_ (y3_.2.1 _ finC_27).2.1)).1.2.2.1 (by decide) (by decide)
      have t45_ : (qN S17_24 (qO S17_24 (qO S17_24 16 9) 5) : Int) = (qN S15_1 (qO S15_1 (qO S15_1 16 9) 5) : Int) := by rw [o35_]; exact q4_.2.kL (j := 5) y3_ (y3_.ref p22_ (y3_.2.1 _ finC_27).2.1) (g.row (y3_.ref p22_ (y3_.2.1 _ finC_27).2.1)).1.2.2.2.1 (by decide) (by decide)
      have t46_ : (qN S17_24 (qO S17_24 16 2) : Int) = (qN S15_1 (qO S15_1 16 2) : Int) := q4_.2.kL (j := 2) y3_ (y3_.2.1 _ finC_27).2.1 (y3_.ptr ptrC_5) (by decide) (by decide)
      have p47_ : qR S17_24 16 8 = some (qO S17_24 16 8) := q4_.2.kP (y3_.2.1 _ finC_27).2.1 p21_ (by decide) (by decide)
      have p48_ : qR S17_24 16 9 = some (qO S17_24 16 9) := q4_.2.kP (y3_.2.1 _ finC_27).2.1 p22_ (by decide) (by decide)
      have g : ShC B S17_24 := q4_.1.1
      exact ⟨g, trivial⟩
    · refine ⟨_, frX6_kindAt y1_ (sgX6_kindAt y1_ g), ?_⟩
      intro r20_49 S21_49 q7_ y8_ y9_
      have o50_ : qO S21_49 16 8 = qO U46 16 8 := qO_eq (q7_.2.kO (y1_.2.1 _ finC_27).2.1 (by decide) (by decide))
      have t51_ : (qI S21_49 (qO S21_49 16 8) 8).toInt = (qI U46 (qO U46 16 8) 8).toInt := by rw [o50_]; exact congrArg Int32.toInt (q7_.2.kI (j := 8) (y1_.ref h0_ (y1_.2.1 _ finC_27).2.1) (by decide) (by decide))
      have t52_ : (qI S21_49 (qO S21_49 16 8) 4).toInt = (qI U46 (qO U46 16 8) 4).toInt := by rw [o50_]; exact congrArg Int32.toInt (q7_.2.kI (j := 4) (y1_.ref h0_ (y1_.2.1 _ finC_27).2.1) (by decide) (by decide))
      have t53_ : (qN S21_49 (qO S21_49 (qO S21_49 16 8) 13) : Int) = (qN U46 (qO U46 (qO U46 16 8) 13) : Int) := by rw [o50_]; exact q7_.2.kL (j := 13) y1_ (y1_.ref h0_ (y1_.2.1 _ finC_27).2.1) (g.unit (y1_.ref h0_ (y1_.2.1 _ finC_27).2.1)).1.2.2.2.2.2.2.2.2 (by decide) (by decide)
      have t54_ : (qN S21_49 (qO S21_49 (qO S21_49 16 8) 9) : Int) = (qN U46 (qO U46 (qO U46 16 8) 9) : Int) := by rw [o50_]; exact q7_.2.kL (j := 9) y1_ (y1_.ref h0_ (y1_.2.1 _ finC_27).2.1) (g.unit (y1_.ref h0_ (y1_.2.1 _ finC_27).2.1)).1.2.2.2.2.1 (by decide) (by decide)
      have t55_ : (qN S21_49 (qO S21_49 (qO S21_49 16 8) 5) : Int) = (qN U46 (qO U46 (qO U46 16 8) 5) : Int) := by rw [o50_]; exact q7_.2.kL (j := 5) y1_ (y1_.ref h0_ (y1_.2.1 _ finC_27).2.1) (g.unit (y1_.ref h0_ (y1_.2.1 _ finC_27).2.1)).1.2.1 (by decide) (by decide)
      have o56_ : qO S21_49 16 9 = qO U46 16 9 := qO_eq (q7_.2.kO (y1_.2.1 _ finC_27).2.1 (by decide) (by decide))
      have t57_ : (qI S21_49 (qO S21_49 16 9) 4).toInt = (qI U46 (qO U46 16 9) 4).toInt := by rw [o56_]; exact congrArg Int32.toInt (q7_.2.kI (j := 4) (y1_.ref h1_ (y1_.2.1 _ finC_27).2.1) (by decide) (by decide))
      have t58_ : (qI S21_49 (qO S21_49 16 9) 9).toInt = (qI U46 (qO U46 16 9) 9).toInt := by rw [o56_]; exact congrArg Int32.toInt (q7_.2.kI (j := 9) (y1_.ref h1_ (y1_.2.1 _ finC_27).2.1) (by decide) (by decide))
      have t59_ : (qI S21_49 (qO S21_49 16 9) 2).toInt = (qI U46 (qO U46 16 9) 2).toInt := by rw [o56_]; exact congrArg Int32.toInt (q7_.2.kI (j := 2) (y1_.ref h1_ (y1_.2.1 _ finC_27).2.1) (by decide) (by decide))
      have t60_ : (qN S21_49 (qO S21_49 (qO S21_49 16 9) 1) : Int) = (qN U46 (qO U46 (qO U46 16 9) 1) : Int) := by rw [o56_]; exact q7_.2.kL (j := 1) y1_ (y1_.ref h1_ (y1_.2.1 _ finC_27).2.1) (g.row (y1_.ref h1_ (y1_.2.1 _ finC_27).2.1)).1.2.1 (by decide) (by decide)
      have t61_ : (qN S21_49 (qO S21_49 (qO S21_49 16 9) 8) : Int) = (qN U46 (qO U46 (qO U46 16 9) 8) : Int) := by rw [o56_]; exact q7_.2.kL (j := 8) y1_ (y1_.ref h1_ (y1_.2.1 _ finC_27).2.1) (g.row (y1_.ref h1_ (y1_.2.1 _ finC_27).2.1)).1.2.2.2.2.2.2 (by decide) (by decide)
      have t62_ : (qN S21_49 (qO S21_49 (qO S21_49 16 9) 7) : Int) = (qN U46 (qO U46 (qO U46 16 9) 7) : Int) := by rw [o56_]; exact q7_.2.kL (j := 7) y1_ (y1_.ref h1_ (y1_.2.1 _ finC_27).2.1) (g.row (y1_.ref h1_ (y1_.2.1 _ finC_27).2.1)).1.2.2.2.2.2.1 (by decide) (by decide)
      have t63_ : (qN S21_49 (qO S21_49 (qO S21_49 16 9) 0) : Int) = (qN U46 (qO U46 (qO U46 16 9) 0) : Int) := by rw [o56_]; exact q7_.2.kL (j := 0) y1_ (y1_.ref h1_ (y1_.2.1 _ finC_27).2.1) (g.row (y1_.ref h1_ (y1_.2.1 _ finC_27).2.1)).1.1 (by decide) (by decide)
      have t64_ : (qN S21_49 (qO S21_49 (qO S21_49 16 9) 6) : Int) = (qN U46 (qO U46 (qO U46 16 9) 6) : Int) := by rw [o56_]; exact q7_.2.kL (j := 6) y1_ (y1_.ref h1_ (y1_.2.1 _ finC_27).2.1) (g.row (y1_.ref h1_ (y1_.2.1 _ finC_27).2.1)).1.2.2.2.2.1 (by decide) (by decide)
      have t65_ : (qN S21_49 (qO S21_49 (qO S21_49 16 9) 3) : Int) = (qN U46 (qO U46 (qO U46 16 9) 3) : Int) := by rw [o56_]; exact q7_.2.kL (j := 3) y1_ (y1_.ref h1_ (y1_.2.1 _ finC_27).2.1) (g.row (y1_.ref h1_ (y1_.2.1 _ finC_27).2.1)).1.2.2.1 (by decide) (by decide)
      have t66_ : (qN S21_49 (qO S21_49 (qO S21_49 16 9) 5) : Int) = (qN U46 (qO U46 (qO U46 16 9) 5) : Int) := by rw [o56_]; exact q7_.2.kL (j := 5) y1_ (y1_.ref h1_ (y1_.2.1 _ finC_27).2.1) (g.row (y1_.ref h1_ (y1_.2.1 _ finC_27).2.1)).1.2.2.2.1 (by decide) (by decide)
      have t67_ : (qN S21_49 (qO S21_49 16 2) : Int) = (qN U46 (qO U46 16 2) : Int) := q7_.2.kL (j := 2) y1_ (y1_.2.1 _ finC_27).2.1 (y1_.ptr ptrC_5) (by decide) (by decide)
      have p68_ : qR S21_49 16 8 = some (qO S21_49 16 8) := q7_.2.kP (y1_.2.1 _ finC_27).2.1 h0_ (by decide) (by decide)
      have p69_ : qR S21_49 16 9 = some (qO S21_49 16 9) := q7_.2.kP (y1_.2.1 _ finC_27).2.1 h1_ (by decide) (by decide)
      have g : ShC B S21_49 := q7_.1.1
      refine ⟨?_, ?_⟩
      · exact dd_X1_lowerType
      intro a26_70 ea26_70 
      have ga26_70 := congrArg Int32.toInt ea26_70
      refine ⟨_, frX1_setPlace y8_ (sfX1_setPlace y8_ ), ?_⟩
      intro S28_71 q10_ y11_ y12_
      have o72_ : qO S28_71 16 8 = qO S21_49 16 8 := qO_eq (q10_.2.kO (y8_.2.1 _ finC_27).2.1 (by decide) (by decide))
      have t73_ : (qI S28_71 (qO S28_71 16 8) 8).toInt = (qI S21_49 (qO S21_49 16 8) 8).toInt := by rw [o72_]; exact congrArg Int32.toInt (q10_.2.kI (j := 8) (y8_.ref p68_ (y8_.2.1 _ finC_27).2.1) (by decide) (by decide))
      have t74_ : (qI S28_71 (qO S28_71 16 8) 4).toInt = (qI S21_49 (qO S21_49 16 8) 4).toInt := by rw [o72_]; exact congrArg Int32.toInt (q10_.2.kI (j := 4) (y8_.ref p68_ (y8_.2.1 _ finC_27).2.1) (by decide) (by decide))
      have t75_ : (qN S28_71 (qO S28_71 (qO S28_71 16 8) 13) : Int) = (qN S21_49 (qO S21_49 (qO S21_49 16 8) 13) : Int) := by rw [o72_]; exact q10_.2.kL (j := 13) y8_ (y8_.ref p68_ (y8_.2.1 _ finC_27).2.1) (g.unit (y8_.ref p68_ (y8_.2.1 _ finC_27).2.1)).1.2.2.2.2.2.2.2.2 (by decide) (by decide)
      have t76_ : (qN S28_71 (qO S28_71 (qO S28_71 16 8) 9) : Int) = (qN S21_49 (qO S21_49 (qO S21_49 16 8) 9) : Int) := by rw [o72_]; exact q10_.2.kL (j := 9) y8_ (y8_.ref p68_ (y8_.2.1 _ finC_27).2.1) (g.unit (y8_.ref p68_ (y8_.2.1 _ finC_27).2.1)).1.2.2.2.2.1 (by decide) (by decide)
      have t77_ : (qN S28_71 (qO S28_71 (qO S28_71 16 8) 5) : Int) = (qN S21_49 (qO S21_49 (qO S21_49 16 8) 5) : Int) := by rw [o72_]; exact q10_.2.kL (j := 5) y8_ (y8_.ref p68_ (y8_.2.1 _ finC_27).2.1) (g.unit (y8_.ref p68_ (y8_.2.1 _ finC_27).2.1)).1.2.1 (by decide) (by decide)
      have o78_ : qO S28_71 16 9 = qO S21_49 16 9 := qO_eq (q10_.2.kO (y8_.2.1 _ finC_27).2.1 (by decide) (by decide))
      have t79_ : (qI S28_71 (qO S28_71 16 9) 4).toInt = (qI S21_49 (qO S21_49 16 9) 4).toInt := by rw [o78_]; exact congrArg Int32.toInt (q10_.2.kI (j := 4) (y8_.ref p69_ (y8_.2.1 _ finC_27).2.1) (by decide) (by decide))
      have t80_ : (qI S28_71 (qO S28_71 16 9) 9).toInt = (qI S21_49 (qO S21_49 16 9) 9).toInt := by rw [o78_]; exact congrArg Int32.toInt (q10_.2.kI (j := 9) (y8_.ref p69_ (y8_.2.1 _ finC_27).2.1) (by decide) (by decide))
      have t81_ : (qI S28_71 (qO S28_71 16 9) 2).toInt = (qI S21_49 (qO S21_49 16 9) 2).toInt := by rw [o78_]; exact congrArg Int32.toInt (q10_.2.kI (j := 2) (y8_.ref p69_ (y8_.2.1 _ finC_27).2.1) (by decide) (by decide))
      have t82_ : (qN S28_71 (qO S28_71 (qO S28_71 16 9) 1) : Int) = (qN S21_49 (qO S21_49 (qO S21_49 16 9) 1) : Int) := by rw [o78_]; exact q10_.2.kL (j := 1) y8_ (y8_.ref p69_ (y8_.2.1 _ finC_27).2.1) (g.row (y8_.ref p69_ (y8_.2.1 _ finC_27).2.1)).1.2.1 (by decide) (by decide)
      have t83_ : (qN S28_71 (qO S28_71 (qO S28_71 16 9) 8) : Int) = (qN S21_49 (qO S21_49 (qO S21_49 16 9) 8) : Int) := by rw [o78_]; exact q10_.2.kL (j := 8) y8_ (y8_.ref p69_ (y8_.2.1 _ finC_27).2.1) (g.row (y8_.ref p69_ (y8_.2.1 _ finC_27).2.1)).1.2.2.2.2.2.2 (by decide) (by decide)
      have t84_ : (qN S28_71 (qO S28_71 (qO S28_71 16 9) 7) : Int) = (qN S21_49 (qO S21_49 (qO S21_49 16 9) 7) : Int) := by rw [o78_]; exact q10_.2.kL (j := 7) y8_ (y8_.ref p69_ (y8_.2.1 _ finC_27).2.1) (g.row (y8_.ref p69_ (y8_.2.1 _ finC_27).2.1)).1.2.2.2.2.2.1 (by decide) (by decide)
      have t85_ : (qN S28_71 (qO S28_71 (qO S28_71 16 9) 0) : Int) = (qN S21_49 (qO S21_49 (qO S21_49 16 9) 0) : Int) := by rw [o78_]; exact q10_.2.kL (j := 0) y8_ (y8_.ref p69_ (y8_.2.1 _ finC_27).2.1) (g.row (y8_.ref p69_ (y8_.2.1 _ finC_27).2.1)).1.1 (by decide) (by decide)
      have t86_ : (qN S28_71 (qO S28_71 (qO S28_71 16 9) 6) : Int) = (qN S21_49 (qO S21_49 (qO S21_49 16 9) 6) : Int) := by rw [o78_]; exact q10_.2.kL (j := 6) y8_ (y8_.ref p69_ (y8_.2.1 _ finC_27).2.1) (g.row (y8_.ref p69_ (y8_.2.1 _ finC_27).2.1)).1.2.2.2.2.1 (by decide) (by decide)
      have t87_ : (qN S28_71 (qO S28_71 (qO S28_71 16 9) 3) : Int) = (qN S21_49 (qO S21_49 (qO S21_49 16 9) 3) : Int) := by rw [o78_]; exact q10_.2.kL (j := 3) y8_ (y8_.ref p69_ (y8_.2.1 _ finC_27).2.1) (g.row (y8_.ref p69_ (y8_.2.1 _ finC_27).2.1)).1.2.2.1 (by decide) (by decide)
      have t88_ : (qN S28_71 (qO S28_71 (qO S28_71 16 9) 5) : Int) = (qN S21_49 (qO S21_49 (qO S21_49 16 9) 5) : Int) := by rw [o78_]; exact q10_.2.kL (j := 5) y8_ (y8_.ref p69_ (y8_.2.1 _ finC_27).2.1) (g.row (y8_.ref p69_ (y8_.2.1 _ finC_27).2.1)).1.2.2.2.1 (by decide) (by decide)
      have t89_ : (qN S28_71 (qO S28_71 16 2) : Int) = (qN S21_49 (qO S21_49 16 2) : Int) := q10_.2.kL (j := 2) y8_ (y8_.2.1 _ finC_27).2.1 (y8_.ptr ptrC_5) (by decide) (by decide)
      have p90_ : qR S28_71 16 8 = some (qO S28_71 16 8) := q10_.2.kP (y8_.2.1 _ finC_27).2.1 p68_ (by decide) (by decide)
      have p91_ : qR S28_71 16 9 = some (qO S28_71 16 9) := q10_.2.kP (y8_.2.1 _ finC_27).2.1 p69_ (by decide) (by decide)
      have g : ShC B S28_71 := ShC.ca y8_ g q10_.2 y12_ y11_ rfl rfl
      refine ⟨fun c92_ => ?_, fun c92_ => ?_⟩
      · refine ⟨_, frX1_setPlace y11_ (sfX1_setPlace y11_ ), ?_⟩
        intro S37_93 q13_ y14_ y15_
        have o94_ : qO S37_93 16 8 = qO S28_71 16 8 := qO_eq (q13_.2.kO (y11_.2.1 _ finC_27).2.1 (by decide) (by decide))
        have t95_ : (qI S37_93 (qO S37_93 16 8) 8).toInt = (qI S28_71 (qO S28_71 16 8) 8).toInt := by rw [o94_]; exact congrArg Int32.toInt (q13_.2.kI (j := 8) (y11_.ref p90_ (y11_.2.1 _ finC_27).2.1) (by decide) (by decide))
        have t96_ : (qI S37_93 (qO S37_93 16 8) 4).toInt = (qI S28_71 (qO S28_71 16 8) 4).toInt := by rw [o94_]; exact congrArg Int32.toInt (q13_.2.kI (j := 4) (y11_.ref p90_ (y11_.2.1 _ finC_27).2.1) (by decide) (by decide))
        have t97_ : (qN S37_93 (qO S37_93 (qO S37_93 16 8) 13) : Int) = (qN S28_71 (qO S28_71 (qO S28_71 16 8) 13) : Int) := by rw [o94_]; exact q13_.2.kL (j := 13) y11_ (y11_.ref p90_ (y11_.2.1 _ finC_27).2.1) (g.unit (y11_.ref p90_ (y11_.2.1 _ finC_27).2.1)).1.2.2.2.2.2.2.2.2 (by decide) (by decide)
        have t98_ : (qN S37_93 (qO S37_93 (qO S37_93 16 8) 9) : Int) = (qN S28_71 (qO S28_71 (qO S28_71 16 8) 9) : Int) := by rw [o94_]; exact q13_.2.kL (j := 9) y11_ (y11_.ref p90_ (y11_.2.1 _ finC_27).2.1) (g.unit (y11_.ref p90_ (y11_.2.1 _ finC_27).2.1)).1.2.2.2.2.1 (by decide) (by decide)
        have t99_ : (qN S37_93 (qO S37_93 (qO S37_93 16 8) 5) : Int) = (qN S28_71 (qO S28_71 (qO S28_71 16 8) 5) : Int) := by rw [o94_]; exact q13_.2.kL (j := 5) y11_ (y11_.ref p90_ (y11_.2.1 _ finC_27).2.1) (g.unit (y11_.ref p90_ (y11_.2.1 _ finC_27).2.1)).1.2.1 (by decide) (by decide)
        have o100_ : qO S37_93 16 9 = qO S28_71 16 9 := qO_eq (q13_.2.kO (y11_.2.1 _ finC_27).2.1 (by decide) (by decide))
        have t101_ : (qI S37_93 (qO S37_93 16 9) 4).toInt = (qI S28_71 (qO S28_71 16 9) 4).toInt := by rw [o100_]; exact congrArg Int32.toInt (q13_.2.kI (j := 4) (y11_.ref p91_ (y11_.2.1 _ finC_27).2.1) (by decide) (by decide))
        have t102_ : (qI S37_93 (qO S37_93 16 9) 9).toInt = (qI S28_71 (qO S28_71 16 9) 9).toInt := by rw [o100_]; exact congrArg Int32.toInt (q13_.2.kI (j := 9) (y11_.ref p91_ (y11_.2.1 _ finC_27).2.1) (by decide) (by decide))
        have t103_ : (qI S37_93 (qO S37_93 16 9) 2).toInt = (qI S28_71 (qO S28_71 16 9) 2).toInt := by rw [o100_]; exact congrArg Int32.toInt (q13_.2.kI (j := 2) (y11_.ref p91_ (y11_.2.1 _ finC_27).2.1) (by decide) (by decide))
        have t104_ : (qN S37_93 (qO S37_93 (qO S37_93 16 9) 1) : Int) = (qN S28_71 (qO S28_71 (qO S28_71 16 9) 1) : Int) := by rw [o100_]; exact q13_.2.kL (j := 1) y11_ (y11_.ref p91_ (y11_.2.1 _ finC_27).2.1) (g.row (y11_.ref p91_ (y11_.2.1 _ finC_27).2.1)).1.2.1 (by decide) (by decide)
        have t105_ : (qN S37_93 (qO S37_93 (qO S37_93 16 9) 8) : Int) = (qN S28_71 (qO S28_71 (qO S28_71 16 9) 8) : Int) := by rw [o100_]; exact q13_.2.kL (j := 8) y11_ (y11_.ref p91_ (y11_.2.1 _ finC_27).2.1) (g.row (y11_.ref p91_ (y11_.2.1 _ finC_27).2.1)).1.2.2.2.2.2.2 (by decide) (by decide)
        have t106_ : (qN S37_93 (qO S37_93 (qO S37_93 16 9) 7) : Int) = (qN S28_71 (qO S28_71 (qO S28_71 16 9) 7) : Int) := by rw [o100_]; exact q13_.2.kL (j := 7) y11_ (y11_.ref p91_ (y11_.2.1 _ finC_27).2.1) (g.row (y11_.ref p91_ (y11_.2.1 _ finC_27).2.1)).1.2.2.2.2.2.1 (by decide) (by decide)
        have t107_ : (qN S37_93 (qO S37_93 (qO S37_93 16 9) 0) : Int) = (qN S28_71 (qO S28_71 (qO S28_71 16 9) 0) : Int) := by rw [o100_]; exact q13_.2.kL (j := 0) y11_ (y11_.ref p91_ (y11_.2.1 _ finC_27).2.1) (g.row (y11_.ref p91_ (y11_.2.1 _ finC_27).2.1)).1.1 (by decide) (by decide)
        have t108_ : (qN S37_93 (qO S37_93 (qO S37_93 16 9) 6) : Int) = (qN S28_71 (qO S28_71 (qO S28_71 16 9) 6) : Int) := by rw [o100_]; exact q13_.2.kL (j := 6) y11_ (y11_.ref p91_ (y11_.2.1 _ finC_27).2.1) (g.row (y11_.ref p91_ (y11_.2.1 _ finC_27).2.1)).1.2.2.2.2.1 (by decide) (by decide)
        have t109_ : (qN S37_93 (qO S37_93 (qO S37_93 16 9) 3) : Int) = (qN S28_71 (qO S28_71 (qO S28_71 16 9) 3) : Int) := by rw [o100_]; exact q13_.2.kL (j := 3) y11_ (y11_.ref p91_ (y11_.2.1 _ finC_27).2.1) (g.row (y11_.ref p91_ (y11_.2.1 _ finC_27).2.1)).1.2.2.1 (by decide) (by decide)
        have t110_ : (qN S37_93 (qO S37_93 (qO S37_93 16 9) 5) : Int) = (qN S28_71 (qO S28_71 (qO S28_71 16 9) 5) : Int) := by rw [o100_]; exact q13_.2.kL (j := 5) y11_ (y11_.ref p91_ (y11_.2.1 _ finC_27).2.1) (g.row (y11_.ref p91_ (y11_.2.1 _ finC_27).2.1)).1.2.2.2.1 (by decide) (by decide)
        have t111_ : (qN S37_93 (qO S37_93 16 2) : Int) = (qN S28_71 (qO S28_71 16 2) : Int) := q13_.2.kL (j := 2) y11_ (y11_.2.1 _ finC_27).2.1 (y11_.ptr ptrC_5) (by decide) (by decide)
        have p112_ : qR S37_93 16 8 = some (qO S37_93 16 8) := q13_.2.kP (y11_.2.1 _ finC_27).2.1 p90_ (by decide) (by decide)
        have p113_ : qR S37_93 16 9 = some (qO S37_93 16 9) := q13_.2.kP (y11_.2.1 _ finC_27).2.1 p91_ (by decide) (by decide)
        have g : ShC B S37_93 := ShC.ca y11_ g q13_.2 y15_ y14_ rfl rfl
        unfold w_X1_beginBody_J84
        intro y16_
        refine ⟨fun c114_ => ?_, fun c114_ => ?_⟩
        · unfold w_X1_beginBody_J96
          intro y17_
          intro a31_115 ea31_115 
          have ga31_115 := congrArg Int32.toInt ea31_115
          intro a32_116 ea32_116 
          have ga32_116 := congrArg Int32.toInt ea32_116
          refine ih46 g p112_ p113_ ?_ ?_ ?_
          · have s117_ := (g.unit (y17_.ref p112_ (y17_.2.1 _ finC_27).2.1)).2
            have s118_ := (g.row (y17_.ref p113_ (y17_.2.1 _ finC_27).2.1)).2
            have s119_ := y17_.len9 (y17_.ref (y17_.ptr ptrC_5) (y17_.2.1 _ finC_27).2.1) (by decide)
            have s120_ := g.chk
            unfold ChKk at s120_
            have n1_ := rgI a32_116
            have n2_ := rgI v46_4
            have n3_ := rgI (qI U46 (qO U46 16 9) 2)
            have n4_ := rgI v46_2
            have n5_ := rgI a26_70
            have n6_ := rgI (fX1_lowerType S21_49 r20_49)
            have n7_ := rgI r20_49
            have n8_ := rgI a31_115
            have n10_ := rgI v46_3
            have n11_ := li_2k
            have n11_ := t_addD (a := v46_3) (b := (2 : Int32))
            have n12_ := rgI (v46_3 + (2 : Int32))
            have n14_ := lo_1k
            have n14_ := t_addD (a := v46_4) (b := Int32.ofInt 1)
            have n15_ := rgI (v46_4 + Int32.ofInt 1)
            omega
          · have s121_ := (g.unit (y17_.ref p112_ (y17_.2.1 _ finC_27).2.1)).2
            have s122_ := (g.row (y17_.ref p113_ (y17_.2.1 _ finC_27).2.1)).2
            have s123_ := y17_.len9 (y17_.ref (y17_.ptr ptrC_5) (y17_.2.1 _ finC_27).2.1) (by decide)
            have s124_ := g.chk
            unfold ChKk at s124_
            have n1_ := rgI (qI S37_93 (qO S37_93 16 9) 2)
            have n2_ := rgI v46_4
            have n3_ := rgI (qI U46 (qO U46 16 9) 2)
            have n4_ := rgI v46_2
            have n5_ := rgI a26_70
            have n6_ := rgI (fX1_lowerType S21_49 r20_49)
            have n7_ := rgI r20_49
            have n8_ := rgI a31_115
            have n10_ := rgI v46_3
            have n11_ := li_2k
            have n11_ := t_addD (a := v46_3) (b := (2 : Int32))
            have n12_ := rgI (v46_3 + (2 : Int32))
            have n13_ := rgI a32_116
            have n15_ := lo_1k
            have n15_ := t_addD (a := v46_4) (b := Int32.ofInt 1)
            have n16_ := rgI (v46_4 + Int32.ofInt 1)
            omega
          · have s125_ := (g.unit (y17_.ref p112_ (y17_.2.1 _ finC_27).2.1)).2
            have s126_ := (g.row (y17_.ref p113_ (y17_.2.1 _ finC_27).2.1)).2
            have s127_ := y17_.len9 (y17_.ref (y17_.ptr ptrC_5) (y17_.2.1 _ finC_27).2.1) (by decide)
            have s128_ := g.chk
            unfold ChKk at s128_
            have n1_ := rgI a32_116
            have n2_ := rgI v46_4
            have n3_ := rgI (qI U46 (qO U46 16 9) 2)
            have n4_ := rgI v46_2
            have n5_ := rgI a26_70
            have n6_ := rgI (fX1_lowerType S21_49 r20_49)
            have n7_ := rgI r20_49
            have n8_ := rgI a31_115
            have n10_ := rgI v46_3
            have n11_ := li_2k
            have n11_ := t_addD (a := v46_3) (b := (2 : Int32))
            have n12_ := rgI (v46_3 + (2 : Int32))
            have n14_ := lo_1k
            have n14_ := t_addD (a := v46_4) (b := Int32.ofInt 1)
            have n15_ := rgI (v46_4 + Int32.ofInt 1)
            omega
        · unfold w_X1_beginBody_J96
          intro y18_
          intro a31_129 ea31_129 
          have ga31_129 := congrArg Int32.toInt ea31_129
          intro a32_130 ea32_130 
          have ga32_130 := congrArg Int32.toInt ea32_130
          refine ih46 g p112_ p113_ ?_ ?_ ?_
          · have s131_ := (g.unit (y18_.ref p112_ (y18_.2.1 _ finC_27).2.1)).2
            have s132_ := (g.row (y18_.ref p113_ (y18_.2.1 _ finC_27).2.1)).2
            have s133_ := y18_.len9 (y18_.ref (y18_.ptr ptrC_5) (y18_.2.1 _ finC_27).2.1) (by decide)
            have s134_ := g.chk
            unfold ChKk at s134_
            have n1_ := rgI a32_130
            have n2_ := rgI v46_4
            have n3_ := rgI (qI U46 (qO U46 16 9) 2)
            have n4_ := rgI v46_2
            have n5_ := rgI a26_70
            have n6_ := rgI (fX1_lowerType S21_49 r20_49)
            have n7_ := rgI r20_49
            have n8_ := rgI a31_129
            have n10_ := rgI v46_3
            have n11_ := li_1k
            have n11_ := t_addD (a := v46_3) (b := (1 : Int32))
            have n12_ := rgI (v46_3 + (1 : Int32))
            have n14_ := lo_1k
            have n14_ := t_addD (a := v46_4) (b := Int32.ofInt 1)
            have n15_ := rgI (v46_4 + Int32.ofInt 1)
            omega
          · have s135_ := (g.unit (y18_.ref p112_ (y18_.2.1 _ finC_27).2.1)).2
            have s136_ := (g.row (y18_.ref p113_ (y18_.2.1 _ finC_27).2.1)).2
            have s137_ := y18_.len9 (y18_.ref (y18_.ptr ptrC_5) (y18_.2.1 _ finC_27).2.1) (by decide)
            have s138_ := g.chk
            unfold ChKk at s138_
            have n1_ := rgI (qI S37_93 (qO S37_93 16 9) 2)
            have n2_ := rgI v46_4
            have n3_ := rgI (qI U46 (qO U46 16 9) 2)
            have n4_ := rgI v46_2
            have n5_ := rgI a26_70
            have n6_ := rgI (fX1_lowerType S21_49 r20_49)
            have n7_ := rgI r20_49
            have n8_ := rgI a31_129
            have n10_ := rgI v46_3
            have n11_ := li_1k
            have n11_ := t_addD (a := v46_3) (b := (1 : Int32))
            have n12_ := rgI (v46_3 + (1 : Int32))
            have n13_ := rgI a32_130
            have n15_ := lo_1k
            have n15_ := t_addD (a := v46_4) (b := Int32.ofInt 1)
            have n16_ := rgI (v46_4 + Int32.ofInt 1)
            omega
          · have s139_ := (g.unit (y18_.ref p112_ (y18_.2.1 _ finC_27).2.1)).2
            have s140_ := (g.row (y18_.ref p113_ (y18_.2.1 _ finC_27).2.1)).2
            have s141_ := y18_.len9 (y18_.ref (y18_.ptr ptrC_5) (y18_.2.1 _ finC_27).2.1) (by decide)
            have s142_ := g.chk
            unfold ChKk at s142_
            have n1_ := rgI a32_130
            have n2_ := rgI v46_4
            have n3_ := rgI (qI U46 (qO U46 16 9) 2)
            have n4_ := rgI v46_2
            have n5_ := rgI a26_70
            have n6_ := rgI (fX1_lowerType S21_49 r20_49)
            have n7_ := rgI r20_49
            have n8_ := rgI a31_129
            have n10_ := rgI v46_3
            have n11_ := li_1k
            have n11_ := t_addD (a := v46_3) (b := (1 : Int32))
            have n12_ := rgI (v46_3 + (1 : Int32))
            have n14_ := lo_1k
            have n14_ := t_addD (a := v46_4) (b := Int32.ofInt 1)
            have n15_ := rgI (v46_4 + Int32.ofInt 1)
            omega
      · unfold w_X1_beginBody_J84
        intro y19_
        refine ⟨fun c143_ => ?_, fun c143_ => ?_⟩
        · unfold w_X1_beginBody_J96
          intro y20_
          intro a31_144 ea31_144 
          have ga31_144 := congrArg Int32.toInt ea31_144
          intro a32_145 ea32_145 
          have ga32_145 := congrArg Int32.toInt ea32_145
          refine ih46 g p90_ p91_ ?_ ?_ ?_
          · have s146_ := (g.unit (y20_.ref p90_ (y20_.2.1 _ finC_27).2.1)).2
            have s147_ := (g.row (y20_.ref p91_ (y20_.2.1 _ finC_27).2.1)).2
            have s148_ := y20_.len9 (y20_.ref (y20_.ptr ptrC_5) (y20_.2.1 _ finC_27).2.1) (by decide)
            have s149_ := g.chk
            unfold ChKk at s149_
            have n1_ := rgI a32_145
            have n2_ := rgI v46_4
            have n3_ := rgI (qI U46 (qO U46 16 9) 2)
            have n4_ := rgI v46_2
            have n5_ := rgI a26_70
            have n6_ := rgI (fX1_lowerType S21_49 r20_49)
            have n7_ := rgI r20_49
            have n8_ := rgI a31_144
            have n10_ := rgI v46_3
            have n11_ := li_2k
            have n11_ := t_addD (a := v46_3) (b := (2 : Int32))
            have n12_ := rgI (v46_3 + (2 : Int32))
            have n14_ := lo_1k
            have n14_ := t_addD (a := v46_4) (b := Int32.ofInt 1)
            have n15_ := rgI (v46_4 + Int32.ofInt 1)
            omega
          · have s150_ := (g.unit (y20_.ref p90_ (y20_.2.1 _ finC_27).2.1)).2
            have s151_ := (g.row (y20_.ref p91_ (y20_.2.1 _ finC_27).2.1)).2
            have s152_ := y20_.len9 (y20_.ref (y20_.ptr ptrC_5) (y20_.2.1 _ finC_27).2.1) (by decide)
            have s153_ := g.chk
            unfold ChKk at s153_
            have n1_ := rgI (qI S28_71 (qO S28_71 16 9) 2)
            have n2_ := rgI v46_4
            have n3_ := rgI (qI U46 (qO U46 16 9) 2)
            have n4_ := rgI v46_2
            have n5_ := rgI a26_70
            have n6_ := rgI (fX1_lowerType S21_49 r20_49)
            have n7_ := rgI r20_49
            have n8_ := rgI a31_144
            have n10_ := rgI v46_3
            have n11_ := li_2k
            have n11_ := t_addD (a := v46_3) (b := (2 : Int32))
            have n12_ := rgI (v46_3 + (2 : Int32))
            have n13_ := rgI a32_145
            have n15_ := lo_1k
            have n15_ := t_addD (a := v46_4) (b := Int32.ofInt 1)
            have n16_ := rgI (v46_4 + Int32.ofInt 1)
            omega
          · have s154_ := (g.unit (y20_.ref p90_ (y20_.2.1 _ finC_27).2.1)).2
            have s155_ := (g.row (y20_.ref p91_ (y20_.2.1 _ finC_27).2.1)).2
            have s156_ := y20_.len9 (y20_.ref (y20_.ptr ptrC_5) (y20_.2.1 _ finC_27).2.1) (by decide)
            have s157_ := g.chk
            unfold ChKk at s157_
            have n1_ := rgI a32_145
            have n2_ := rgI v46_4
            have n3_ := rgI (qI U46 (qO U46 16 9) 2)
            have n4_ := rgI v46_2
            have n5_ := rgI a26_70
            have n6_ := rgI (fX1_lowerType S21_49 r20_49)
            have n7_ := rgI r20_49
            have n8_ := rgI a31_144
            have n10_ := rgI v46_3
            have n11_ := li_2k
            have n11_ := t_addD (a := v46_3) (b := (2 : Int32))
            have n12_ := rgI (v46_3 + (2 : Int32))
            have n14_ := lo_1k
            have n14_ := t_addD (a := v46_4) (b := Int32.ofInt 1)
            have n15_ := rgI (v46_4 + Int32.ofInt 1)
            omega
        · unfold w_X1_beginBody_J96
          intro y21_
          intro a31_158 ea31_158 
          have ga31_158 := congrArg Int32.toInt ea31_158
          intro a32_159 ea32_159 
          have ga32_159 := congrArg Int32.toInt ea32_159
          refine ih46 g p90_ p91_ ?_ ?_ ?_
          · have s160_ := (g.unit (y21_.ref p90_ (y21_.2.1 _ finC_27).2.1)).2
            have s161_ := (g.row (y21_.ref p91_ (y21_.2.1 _ finC_27).2.1)).2
            have s162_ := y21_.len9 (y21_.ref (y21_.ptr ptrC_5) (y21_.2.1 _ finC_27).2.1) (by decide)
            have s163_ := g.chk
            unfold ChKk at s163_
            have n1_ := rgI a32_159
            have n2_ := rgI v46_4
            have n3_ := rgI (qI U46 (qO U46 16 9) 2)
            have n4_ := rgI v46_2
            have n5_ := rgI a26_70
            have n6_ := rgI (fX1_lowerType S21_49 r20_49)
            have n7_ := rgI r20_49
            have n8_ := rgI a31_158
            have n10_ := rgI v46_3
            have n11_ := li_1k
            have n11_ := t_addD (a := v46_3) (b := (1 : Int32))
            have n12_ := rgI (v46_3 + (1 : Int32))
            have n14_ := lo_1k
            have n14_ := t_addD (a := v46_4) (b := Int32.ofInt 1)
            have n15_ := rgI (v46_4 + Int32.ofInt 1)
            omega
          · have s164_ := (g.unit (y21_.ref p90_ (y21_.2.1 _ finC_27).2.1)).2
            have s165_ := (g.row (y21_.ref p91_ (y21_.2.1 _ finC_27).2.1)).2
            have s166_ := y21_.len9 (y21_.ref (y21_.ptr ptrC_5) (y21_.2.1 _ finC_27).2.1) (by decide)
            have s167_ := g.chk
            unfold ChKk at s167_
            have n1_ := rgI (qI S28_71 (qO S28_71 16 9) 2)
            have n2_ := rgI v46_4
            have n3_ := rgI (qI U46 (qO U46 16 9) 2)
            have n4_ := rgI v46_2
            have n5_ := rgI a26_70
            have n6_ := rgI (fX1_lowerType S21_49 r20_49)
            have n7_ := rgI r20_49
            have n8_ := rgI a31_158
            have n10_ := rgI v46_3
            have n11_ := li_1k
            have n11_ := t_addD (a := v46_3) (b := (1 : Int32))
            have n12_ := rgI (v46_3 + (1 : Int32))
            have n13_ := rgI a32_159
            have n15_ := lo_1k
            have n15_ := t_addD (a := v46_4) (b := Int32.ofInt 1)
            have n16_ := rgI (v46_4 + Int32.ofInt 1)
            omega
          · have s168_ := (g.unit (y21_.ref p90_ (y21_.2.1 _ finC_27).2.1)).2
            have s169_ := (g.row (y21_.ref p91_ (y21_.2.1 _ finC_27).2.1)).2
            have s170_ := y21_.len9 (y21_.ref (y21_.ptr ptrC_5) (y21_.2.1 _ finC_27).2.1) (by decide)
            have s171_ := g.chk
            unfold ChKk at s171_
            have n1_ := rgI a32_159
            have n2_ := rgI v46_4
            have n3_ := rgI (qI U46 (qO U46 16 9) 2)
            have n4_ := rgI v46_2
            have n5_ := rgI a26_70
            have n6_ := rgI (fX1_lowerType S21_49 r20_49)
            have n7_ := rgI r20_49
            have n8_ := rgI a31_158
            have n10_ := rgI v46_3
            have n11_ := li_1k
            have n11_ := t_addD (a := v46_3) (b := (1 : Int32))
            have n12_ := rgI (v46_3 + (1 : Int32))
            have n14_ := lo_1k
            have n14_ := t_addD (a := v46_4) (b := Int32.ofInt 1)
            have n15_ := rgI (v46_4 + Int32.ofInt 1)
            omega
set_option maxRecDepth 100000 in
theorem sg_X1_beginBody_L2 {B : Nat × Nat} : ∀ (n : Nat) {U2 : MS} {v2_1 : Int32}, ShC B U2 → qR U2 16 8 = some (qO U2 16 8) → qR U2 16 9 = some (qO U2 16 9) → 0 ≤ v2_1.toInt → (qI U2 (qO U2 16 9) 2).toInt ≤ (qN U2 (qO U2 16 2) : Int) → 2147483648 - v2_1.toInt < n → w_X1_beginBody_L2 (fun u => ShC B u ∧ (True)) n U2 v2_1 := by
  intro n
  induction n with
  | zero => intro U2 v2_1 g h0_ h1_ j0_ j1_ hm_; exfalso; have := rgI v2_1; omega
  | succ n ih2 =>
    intro U2 v2_1 g h0_ h1_ j0_ j1_ hm_
    unfold w_X1_beginBody_L2
    intro y22_
    refine ⟨fun c172_ => ?_, fun c172_ => ?_⟩
    · refine ⟨?_, ?_⟩
      · exact h0_
      refine ⟨?_, ?_⟩
      · exact h1_
      refine ⟨?_, ?_⟩
      · exact (dd_X10_takesOfMethod y22_ g (y22_.ref h0_ (y22_.2.1 _ finC_27).2.1))
      intro a9_173 ea9_173 
      have ga9_173 := congrArg Int32.toInt ea9_173
      refine ⟨_, frX6_kindCount y22_ (sgX6_kindCount y22_ g), ?_⟩
      intro r11_174 S12_174 q23_ y24_ y25_
      have o175_ : qO S12_174 16 8 = qO U2 16 8 := qO_eq (q23_.2.kO (y22_.2.1 _ finC_27).2.1 (by decide) (by decide))
      have t176_ : (qI S12_174 (qO S12_174 16 8) 8).toInt = (qI U2 (qO U2 16 8) 8).toInt := by rw [o175_]; exact congrArg Int32.toInt (q23_.2.kI (j := 8) (y22_.ref h0_ (y22_.2.1 _ finC_27).2.1) (by decide) (by decide))
      have t177_ : (qI S12_174 (qO S12_174 16 8) 4).toInt = (qI U2 (qO U2 16 8) 4).toInt := by rw [o175_]; exact congrArg Int32.toInt (q23_.2.kI (j := 4) (y22_.ref h0_ (y22_.2.1 _ finC_27).2.1) (by decide) (by decide))
      have t178_ : (qN S12_174 (qO S12_174 (qO S12_174 16 8) 13) : Int) = (qN U2 (qO U2 (qO U2 16 8) 13) : Int) := by rw [o175_]; exact q23_.2.kL (j := 13) y22_ (y22_.ref h0_ (y22_.2.1 _ finC_27).2.1) (g.unit (y22_.ref h0_ (y22_.2.1 _ finC_27).2.1)).1.2.2.2.2.2.2.2.2 (by decide) (by decide)
      have t179_ : (qN S12_174 (qO S12_174 (qO S12_174 16 8) 9) : Int) = (qN U2 (qO U2 (qO U2 16 8) 9) : Int) := by rw [o175_]; exact q23_.2.kL (j := 9) y22_ (y22_.ref h0_ (y22_.2.1 _ finC_27).2.1) (g.unit (y22_.ref h0_ (y22_.2.1 _ finC_27).2.1)).1.2.2.2.2.1 (by decide) (by decide)
      have t180_ : (qN S12_174 (qO S12_174 (qO S12_174 16 8) 5) : Int) = (qN U2 (qO U2 (qO U2 16 8) 5) : Int) := by rw [o175_]; exact q23_.2.kL (j := 5) y22_ (y22_.ref h0_ (y22_.2.1 _ finC_27).2.1) (g.unit (y22_.ref h0_ (y22_.2.1 _ finC_27).2.1)).1.2.1 (by decide) (by decide)
      have o181_ : qO S12_174 16 9 = qO U2 16 9 := qO_eq (q23_.2.kO (y22_.2.1 _ finC_27).2.1 (by decide) (by decide))
      have t182_ : (qI S12_174 (qO S12_174 16 9) 4).toInt = (qI U2 (qO U2 16 9) 4).toInt := by rw [o181_]; exact congrArg Int32.toInt (q23_.2.kI (j := 4) (y22_.ref h1_ (y22_.2.1 _ finC_27).2.1) (by decide) (by decide))
      have t183_ : (qI S12_174 (qO S12_174 16 9) 9).toInt = (qI U2 (qO U2 16 9) 9).toInt := by rw [o181_]; exact congrArg Int32.toInt (q23_.2.kI (j := 9) (y22_.ref h1_ (y22_.2.1 _ finC_27).2.1) (by decide) (by decide))
      have t184_ : (qI S12_174 (qO S12_174 16 9) 2).toInt = (qI U2 (qO U2 16 9) 2).toInt := by rw [o181_]; exact congrArg Int32.toInt (q23_.2.kI (j := 2) (y22_.ref h1_ (y22_.2.1 _ finC_27).2.1) (by decide) (by decide))
      have t185_ : (qN S12_174 (qO S12_174 (qO S12_174 16 9) 1) : Int) = (qN U2 (qO U2 (qO U2 16 9) 1) : Int) := by rw [o181_]; exact q23_.2.kL (j := 1) y22_ (y22_.ref h1_ (y22_.2.1 _ finC_27).2.1) (g.row (y22_.ref h1_ (y22_.2.1 _ finC_27).2.1)).1.2.1 (by decide) (by decide)
      have t186_ : (qN S12_174 (qO S12_174 (qO S12_174 16 9) 8) : Int) = (qN U2 (qO U2 (qO U2 16 9) 8) : Int) := by rw [o181_]; exact q23_.2.kL (j := 8) y22_ (y22_.ref h1_ (y22_.2.1 _ finC_27).2.1) (g.row (y22_.ref h1_ (y22_.2.1 _ finC_27).2.1)).1.2.2.2.2.2.2 (by decide) (by decide)
      have t187_ : (qN S12_174 (qO S12_174 (qO S12_174 16 9) 7) : Int) = (qN U2 (qO U2 (qO U2 16 9) 7) : Int) := by rw [o181_]; exact q23_.2.kL (j := 7) y22_ (y22_.ref h1_ (y22_.2.1 _ finC_27).2.1) (g.row (y22_.ref h1_ (y22_.2.1 _ finC_27).2.1)).1.2.2.2.2.2.1 (by decide) (by decide)
      have t188_ : (qN S12_174 (qO S12_174 (qO S12_174 16 9) 0) : Int) = (qN U2 (qO U2 (qO U2 16 9) 0) : Int) := by rw [o181_]; exact q23_.2.kL (j := 0) y22_ (y22_.ref h1_ (y22_.2.1 _ finC_27).2.1) (g.row (y22_.ref h1_ (y22_.2.1 _ finC_27).2.1)).1.1 (by decide) (by decide)
      have t189_ : (qN S12_174 (qO S12_174 (qO S12_174 16 9) 6) : Int) = (qN U2 (qO U2 (qO U2 16 9) 6) : Int) := by rw [o181_]; exact q23_.2.kL (j := 6) y22_ (y22_.ref h1_ (y22_.2.1 _ finC_27).2.1) (g.row (y22_.ref h1_ (y22_.2.1 _ finC_27).2.1)).1.2.2.2.2.1 (by decide) (by decide)
      have t190_ : (qN S12_174 (qO S12_174 (qO S12_174 16 9) 3) : Int) = (qN U2 (qO U2 (qO U2 16 9) 3) : Int) := by rw [o181_]; exact q23_.2.kL (j := 3) y22_ (y22_.ref h1_ (y22_.2.1 _ finC_27).2.1) (g.row (y22_.ref h1_ (y22_.2.1 _ finC_27).2.1)).1.2.2.1 (by decide) (by decide)
      have t191_ : (qN S12_174 (qO S12_174 (qO S12_174 16 9) 5) : Int) = (qN U2 (qO U2 (qO U2 16 9) 5) : Int) := by rw [o181_]; exact q23_.2.kL (j := 5) y22_ (y22_.ref h1_ (y22_.2.1 _ finC_27).2.1) (g.row (y22_.ref h1_ (y22_.2.1 _ finC_27).2.1)).1.2.2.2.1 (by decide) (by decide)
      have t192_ : (qN S12_174 (qO S12_174 16 2) : Int) = (qN U2 (qO U2 16 2) : Int) := q23_.2.kL (j := 2) y22_ (y22_.2.1 _ finC_27).2.1 (y22_.ptr ptrC_5) (by decide) (by decide)
      have p193_ : qR S12_174 16 8 = some (qO S12_174 16 8) := q23_.2.kP (y22_.2.1 _ finC_27).2.1 h0_ (by decide) (by decide)
      have p194_ : qR S12_174 16 9 = some (qO S12_174 16 9) := q23_.2.kP (y22_.2.1 _ finC_27).2.1 h1_ (by decide) (by decide)
      have g : ShC B S12_174 := q23_.1.1
      have zq23_ : 0 ≤ r11_174.toInt ∧ r11_174.toInt ≤ 8 := q23_.1.2
      refine ⟨(2147483648 - (0 : Int32).toInt).toNat + 1, ?_⟩
      refine sg_X1_beginBody_L46  _ g p193_ p194_ ?_ ?_ ?_
      · have s195_ := (g.unit (y24_.ref p193_ (y24_.2.1 _ finC_27).2.1)).2
        have s196_ := (g.row (y24_.ref p194_ (y24_.2.1 _ finC_27).2.1)).2
        have s197_ := y24_.len9 (y24_.ref (y24_.ptr ptrC_5) (y24_.2.1 _ finC_27).2.1) (by decide)
        have s198_ := g.chk
        unfold ChKk at s198_
        have n1_ := li_0k
        have n2_ := rgI v2_1
        have n3_ := rgI (qI U2 (qO U2 16 9) 2)
        have n4_ := rgI a9_173
        have n5_ := rgI (fX10_takesOfMethod U2 (qO U2 16 8) (qI U2 (qO U2 16 9) 11))
        have n6_ := rgI r11_174
        omega
      · have s199_ := (g.unit (y24_.ref p193_ (y24_.2.1 _ finC_27).2.1)).2
        have s200_ := (g.row (y24_.ref p194_ (y24_.2.1 _ finC_27).2.1)).2
        have s201_ := y24_.len9 (y24_.ref (y24_.ptr ptrC_5) (y24_.2.1 _ finC_27).2.1) (by decide)
        have s202_ := g.chk
        unfold ChKk at s202_
        have n1_ := rgI (qI S12_174 (qO S12_174 16 9) 2)
        have n2_ := rgI v2_1
        have n3_ := rgI (qI U2 (qO U2 16 9) 2)
        have n4_ := rgI a9_173
        have n5_ := rgI (fX10_takesOfMethod U2 (qO U2 16 8) (qI U2 (qO U2 16 9) 11))
        have n6_ := rgI r11_174
        omega
      · have s203_ := (g.unit (y24_.ref p193_ (y24_.2.1 _ finC_27).2.1)).2
        have s204_ := (g.row (y24_.ref p194_ (y24_.2.1 _ finC_27).2.1)).2
        have s205_ := y24_.len9 (y24_.ref (y24_.ptr ptrC_5) (y24_.2.1 _ finC_27).2.1) (by decide)
        have s206_ := g.chk
        unfold ChKk at s206_
        have n1_ := li_0k
        have n2_ := rgI v2_1
        have n3_ := rgI (qI U2 (qO U2 16 9) 2)
        have n4_ := rgI a9_173
        have n5_ := rgI (fX10_takesOfMethod U2 (qO U2 16 8) (qI U2 (qO U2 16 9) 11))
        have n6_ := rgI r11_174
        omega
    · refine ⟨?_, ?_⟩
      · have s207_ := (g.unit (y22_.ref h0_ (y22_.2.1 _ finC_27).2.1)).2
        have s208_ := (g.row (y22_.ref h1_ (y22_.2.1 _ finC_27).2.1)).2
        have s209_ := y22_.len9 (y22_.ref (y22_.ptr ptrC_5) (y22_.2.1 _ finC_27).2.1) (by decide)
        have s210_ := g.chk
        unfold ChKk at s210_
        have n1_ := rgI v2_1
        have n2_ := rgI (qI U2 (qO U2 16 9) 2)
        omega
      intro S40_211 eS40_211 y26_ y27_
      have f212_ : cfr [103] [] U2 S40_211 := by rw [eS40_211]; exact cfr.aI y26_ (by decide)
      have o213_ : qO S40_211 16 8 = qO U2 16 8 := qO_eq (f212_.kO (y22_.2.1 _ finC_27).2.1 (by decide) (by decide))
      have t214_ : (qI S40_211 (qO S40_211 16 8) 8).toInt = (qI U2 (qO U2 16 8) 8).toInt := by rw [o213_]; exact congrArg Int32.toInt (f212_.kI (j := 8) (y22_.ref h0_ (y22_.2.1 _ finC_27).2.1) (by decide) (by decide))
      have t215_ : (qI S40_211 (qO S40_211 16 8) 4).toInt = (qI U2 (qO U2 16 8) 4).toInt := by rw [o213_]; exact congrArg Int32.toInt (f212_.kI (j := 4) (y22_.ref h0_ (y22_.2.1 _ finC_27).2.1) (by decide) (by decide))
      have t216_ : (qN S40_211 (qO S40_211 (qO S40_211 16 8) 13) : Int) = (qN U2 (qO U2 (qO U2 16 8) 13) : Int) := by rw [o213_]; exact f212_.kL (j := 13) y22_ (y22_.ref h0_ (y22_.2.1 _ finC_27).2.1) (g.unit (y22_.ref h0_ (y22_.2.1 _ finC_27).2.1)).1.2.2.2.2.2.2.2.2 (by decide) (by decide)
      have t217_ : (qN S40_211 (qO S40_211 (qO S40_211 16 8) 9) : Int) = (qN U2 (qO U2 (qO U2 16 8) 9) : Int) := by rw [o213_]; exact f212_.kL (j := 9) y22_ (y22_.ref h0_ (y22_.2.1 _ finC_27).2.1) (g.unit (y22_.ref h0_ (y22_.2.1 _ finC_27).2.1)).1.2.2.2.2.1 (by decide) (by decide)
      have t218_ : (qN S40_211 (qO S40_211 (qO S40_211 16 8) 5) : Int) = (qN U2 (qO U2 (qO U2 16 8) 5) : Int) := by rw [o213_]; exact f212_.kL (j := 5) y22_ (y22_.ref h0_ (y22_.2.1 _ finC_27).2.1) (g.unit (y22_.ref h0_ (y22_.2.1 _ finC_27).2.1)).1.2.1 (by decide) (by decide)
      have o219_ : qO S40_211 16 9 = qO U2 16 9 := qO_eq (f212_.kO (y22_.2.1 _ finC_27).2.1 (by decide) (by decide))
      have t220_ : (qI S40_211 (qO S40_211 16 9) 4).toInt = (qI U2 (qO U2 16 9) 4).toInt := by rw [o219_]; exact congrArg Int32.toInt (f212_.kI (j := 4) (y22_.ref h1_ (y22_.2.1 _ finC_27).2.1) (by decide) (by decide))
      have t221_ : (qI S40_211 (qO S40_211 16 9) 9).toInt = (qI U2 (qO U2 16 9) 9).toInt := by rw [o219_]; exact congrArg Int32.toInt (f212_.kI (j := 9) (y22_.ref h1_ (y22_.2.1 _ finC_27).2.1) (by decide) (by decide))
      have t222_ : (qI S40_211 (qO S40_211 16 9) 2).toInt = (qI U2 (qO U2 16 9) 2).toInt := by rw [o219_]; exact congrArg Int32.toInt (f212_.kI (j := 2) (y22_.ref h1_ (y22_.2.1 _ finC_27).2.1) (by decide) (by decide))
      have t223_ : (qN S40_211 (qO S40_211 (qO S40_211 16 9) 1) : Int) = (qN U2 (qO U2 (qO U2 16 9) 1) : Int) := by rw [o219_]; exact f212_.kL (j := 1) y22_ (y22_.ref h1_ (y22_.2.1 _ finC_27).2.1) (g.row (y22_.ref h1_ (y22_.2.1 _ finC_27).2.1)).1.2.1 (by decide) (by decide)
      have t224_ : (qN S40_211 (qO S40_211 (qO S40_211 16 9) 8) : Int) = (qN U2 (qO U2 (qO U2 16 9) 8) : Int) := by rw [o219_]; exact f212_.kL (j := 8) y22_ (y22_.ref h1_ (y22_.2.1 _ finC_27).2.1) (g.row (y22_.ref h1_ (y22_.2.1 _ finC_27).2.1)).1.2.2.2.2.2.2 (by decide) (by decide)
      have t225_ : (qN S40_211 (qO S40_211 (qO S40_211 16 9) 7) : Int) = (qN U2 (qO U2 (qO U2 16 9) 7) : Int) := by rw [o219_]; exact f212_.kL (j := 7) y22_ (y22_.ref h1_ (y22_.2.1 _ finC_27).2.1) (g.row (y22_.ref h1_ (y22_.2.1 _ finC_27).2.1)).1.2.2.2.2.2.1 (by decide) (by decide)
      have t226_ : (qN S40_211 (qO S40_211 (qO S40_211 16 9) 0) : Int) = (qN U2 (qO U2 (qO U2 16 9) 0) : Int) := by rw [o219_]; exact f212_.kL (j := 0) y22_ (y22_.ref h1_ (y22_.2.1 _ finC_27).2.1) (g.row (y22_.ref h1_ (y22_.2.1 _ finC_27).2.1)).1.1 (by decide) (by decide)
      have t227_ : (qN S40_211 (qO S40_211 (qO S40_211 16 9) 6) : Int) = (qN U2 (qO U2 (qO U2 16 9) 6) : Int) := by rw [o219_]; exact f212_.kL (j := 6) y22_ (y22_.ref h1_ (y22_.2.1 _ finC_27).2.1) (g.row (y22_.ref h1_ (y22_.2.1 _ finC_27).2.1)).1.2.2.2.2.1 (by decide) (by decide)
      have t228_ : (qN S40_211 (qO S40_211 (qO S40_211 16 9) 3) : Int) = (qN U2 (qO U2 (qO U2 16 9) 3) : Int) := by rw [o219_]; exact f212_.kL (j := 3) y22_ (y22_.ref h1_ (y22_.2.1 _ finC_27).2.1) (g.row (y22_.ref h1_ (y22_.2.1 _ finC_27).2.1)).1.2.2.1 (by decide) (by decide)
      have t229_ : (qN S40_211 (qO S40_211 (qO S40_211 16 9) 5) : Int) = (qN U2 (qO U2 (qO U2 16 9) 5) : Int) := by rw [o219_]; exact f212_.kL (j := 5) y22_ (y22_.ref h1_ (y22_.2.1 _ finC_27).2.1) (g.row (y22_.ref h1_ (y22_.2.1 _ finC_27).2.1)).1.2.2.2.1 (by decide) (by decide)
      have t230_ : (qN S40_211 (qO S40_211 16 2) : Int) = (qN U2 (qO U2 16 2) : Int) := f212_.kL (j := 2) y22_ (y22_.2.1 _ finC_27).2.1 (y22_.ptr ptrC_5) (by decide) (by decide)
      have p231_ : qR S40_211 16 8 = some (qO S40_211 16 8) := f212_.kP (y22_.2.1 _ finC_27).2.1 h0_ (by decide) (by decide)
      have p232_ : qR S40_211 16 9 = some (qO S40_211 16 9) := f212_.kP (y22_.2.1 _ finC_27).2.1 h1_ (by decide) (by decide)
      have g : ShC B S40_211 := ShC.ws y22_ g f212_ (by rw [eS40_211]; rfl) (by rw [eS40_211]; rfl) (by rw [eS40_211]; rfl) rfl rfl
      intro a41_233 ea41_233 
      have ga41_233 := congrArg Int32.toInt ea41_233
      refine ih2 g p231_ p232_ ?_ ?_ ?_
      · have s234_ := (g.unit (y27_.ref p231_ (y27_.2.1 _ finC_27).2.1)).2
        have s235_ := (g.row (y27_.ref p232_ (y27_.2.1 _ finC_27).2.1)).2
        have s236_ := y27_.len9 (y27_.ref (y27_.ptr ptrC_5) (y27_.2.1 _ finC_27).2.1) (by decide)
        have s237_ := g.chk
        unfold ChKk at s237_
        have n1_ := rgI a41_233
        have n2_ := rgI v2_1
        have n3_ := rgI (qI U2 (qO U2 16 9) 2)
        have n5_ := lo_1k
        have n5_ := t_addD (a := v2_1) (b := Int32.ofInt 1)
        have n6_ := rgI (v2_1 + Int32.ofInt 1)
        omega
      · have s238_ := (g.unit (y27_.ref p231_ (y27_.2.1 _ finC_27).2.1)).2
        have s239_ := (g.row (y27_.ref p232_ (y27_.2.1 _ finC_27).2.1)).2
        have s240_ := y27_.len9 (y27_.ref (y27_.ptr ptrC_5) (y27_.2.1 _ finC_27).2.1) (by decide)
        have s241_ := g.chk
        unfold ChKk at s241_
        have n1_ := rgI (qI S40_211 (qO S40_211 16 9) 2)
        have n2_ := rgI v2_1
        have n3_ := rgI (qI U2 (qO U2 16 9) 2)
        have n4_ := rgI a41_233
        have n6_ := lo_1k
        have n6_ := t_addD (a := v2_1) (b := Int32.ofInt 1)
        have n7_ := rgI (v2_1 + Int32.ofInt 1)
        omega
      · have s242_ := (g.unit (y27_.ref p231_ (y27_.2.1 _ finC_27).2.1)).2
        have s243_ := (g.row (y27_.ref p232_ (y27_.2.1 _ finC_27).2.1)).2
        have s244_ := y27_.len9 (y27_.ref (y27_.ptr ptrC_5) (y27_.2.1 _ finC_27).2.1) (by decide)
        have s245_ := g.chk
        unfold ChKk at s245_
        have n1_ := rgI a41_233
        have n2_ := rgI v2_1
        have n3_ := rgI (qI U2 (qO U2 16 9) 2)
        have n5_ := lo_1k
        have n5_ := t_addD (a := v2_1) (b := Int32.ofInt 1)
        have n6_ := rgI (v2_1 + Int32.ofInt 1)
        omega
set_option maxRecDepth 100000 in
theorem sgX1_beginBody {B : Nat × Nat} {S : MS} (hw : wfC S) (g : ShC B S) (qp0_ : qR S 16 8 = some (qO S 16 8)) (qp1_ : qR S 16 9 = some (qO S 16 9)) (a0_ : (qI S (qO S 16 9) 2).toInt ≤ (qN S (qO S 16 2) : Int)) : wX1_beginBody S (fun u => ShC B u ∧ (True)) := by
  unfold wX1_beginBody
  refine ⟨(2147483648 - (0 : Int32).toInt).toNat + 1, ?_⟩
  refine sg_X1_beginBody_L2  _ g qp0_ qp1_ ?_ ?_ ?_
  · have s246_ := (g.unit (hw.ref qp0_ (hw.2.1 _ finC_27).2.1)).2
    have s247_ := (g.row (hw.ref qp1_ (hw.2.1 _ finC_27).2.1)).2
    have s248_ := hw.len9 (hw.ref (hw.ptr ptrC_5) (hw.2.1 _ finC_27).2.1) (by decide)
    have s249_ := g.chk
    unfold ChKk at s249_
    have n1_ := li_0k
    have n2_ := rgI (qI S (qO S 16 9) 2)
    omega
  · have s250_ := (g.unit (hw.ref qp0_ (hw.2.1 _ finC_27).2.1)).2
    have s251_ := (g.row (hw.ref qp1_ (hw.2.1 _ finC_27).2.1)).2
    have s252_ := hw.len9 (hw.ref (hw.ptr ptrC_5) (hw.2.1 _ finC_27).2.1) (by decide)
    have s253_ := g.chk
    unfold ChKk at s253_
    have n1_ := rgI (qI S (qO S 16 9) 2)
    omega
  · have s254_ := (g.unit (hw.ref qp0_ (hw.2.1 _ finC_27).2.1)).2
    have s255_ := (g.row (hw.ref qp1_ (hw.2.1 _ finC_27).2.1)).2
    have s256_ := hw.len9 (hw.ref (hw.ptr ptrC_5) (hw.2.1 _ finC_27).2.1) (by decide)
    have s257_ := g.chk
    unfold ChKk at s257_
    have n1_ := li_0k
    have n2_ := rgI (qI S (qO S 16 9) 2)
    omega
set_option maxRecDepth 100000 in
theorem sg_X1_flowFrom_L114 {B : Nat × Nat} : ∀ (n : Nat) {U114 : MS} {v114_1 : Int32} {v114_2 : Int32} {v114_3 : Int32}, ShC B U114 → qR U114 16 8 = some (qO U114 16 8) → qR U114 16 9 = some (qO U114 16 9) → 0 ≤ v114_3.toInt → (qI U114 (qO U114 16 9) 2).toInt ≤ (qN U114 (qO U114 16 2) : Int) → 0 ≤ v114_1.toInt → v114_1.toInt < (qN U114 (qO U114 16 2) : Int) → 2147483648 - v114_3.toInt < n → w_X1_flowFrom_L114 (fun u => ShC B u ∧ (True)) n U114 v114_1 v114_2 v114_3 := by
  intro n
  induction n with
  | zero => intro U114 v114_1 v114_2 v114_3 g h0_ h1_ j0_ j1_ j2_ j3_ hm_; exfalso; have := rgI v114_1; have := rgI v114_2; have := rgI v114_3; omega
  | succ n ih114 =>
    intro U114 v114_1 v114_2 v114_3 g h0_ h1_ j0_ j1_ j2_ j3_ hm_
    unfold w_X1_flowFrom_L114
    intro y1_
    refine ⟨fun c0_ => ?_, fun c0_ => ?_⟩
    · exact ⟨g, trivial⟩
    · refine ⟨?_, ?_⟩
      · exact h1_
      refine ⟨?_, ?_⟩
      · exact (dd_X8_targetAt y1_ g (y1_.ref h1_ (y1_.2.1 _ finC_27).2.1))
      intro a35_1 ea35_1 
      have ga35_1 := congrArg Int32.toInt ea35_1
      refine ⟨_, frX1_comeTo y1_ (sgX1_comeTo y1_ g h1_ (by have s3_ := (g.row (y1_.ref h1_ (y1_.2.1 _ finC_27).2.1)).2; have s4_ := y1_.len9 (y1_.ref (y1_.ptr ptrC_5) (y1_.2.1 _ finC_27).2.1) (by decide); have s5_ := g.chk; unfold ChKk at s5_; have n1_ := rgI (qI U114 (qO U114 16 9) 2); have n2_ := rgI v114_3; have n3_ := rgI v114_1; have n4_ := rgI v114_2; have n5_ := rgI a35_1; have n6_ := rgI (fX8_targetAt U114 (qO U114 16 9) v114_1 v114_3); omega)), ?_⟩
      intro S37_2 q2_ y3_ y4_
      have o6_ : qO S37_2 16 9 = qO U114 16 9 := qO_eq (q2_.2.kO (y1_.2.1 _ finC_27).2.1 (by decide) (by decide))
      have t7_ : (qI S37_2 (qO S37_2 16 9) 4).toInt = (qI U114 (qO U114 16 9) 4).toInt := by rw [o6_]; exact congrArg Int32.toInt (q2_.2.kI (j := 4) (y1_.ref h1_ (y1_.2.1 _ finC_27).2.1) (by decide) (by decide))
      have t8_ : (qI S37_2 (qO S37_2 16 9) 9).toInt = (qI U114 (qO U114 16 9) 9).toInt := by rw [o6_]; exact congrArg Int32.toInt (q2_.2.kI (j := 9) (y1_.ref h1_ (y1_.2.1 _ finC_27).2.1) (by decide) (by decide))
      have t9_ : (qI S37_2 (qO S37_2 16 9) 2).toInt = (qI U114 (qO U114 16 9) 2).toInt := by rw [o6_]; exact congrArg Int32.toInt (q2_.2.kI (j := 2) (y1_.ref h1_ (y1_.2.1 _ finC_27).2.1) (by decide) (by decide))
      have t10_ : (qN S37_2 (qO S37_2 (qO S37_2 16 9) 1) : Int) = (qN U114 (qO U114 (qO U114 16 9) 1) : Int) := by rw [o6_]; exact q2_.2.kL (j := 1) y1_ (y1_.ref h1_ (y1_.2.1 _ finC_27).2.1) (g.row (y1_.ref h1_ (y1_.2.1 _ finC_27).2.1)).1.2.1 (by decide) (by decide)
      have t11_ : (qN S37_2 (qO S37_2 (qO S37_2 16 9) 8) : Int) = (qN U114 (qO U114 (qO U114 16 9) 8) : Int) := by rw [o6_]; exact q2_.2.kL (j := 8) y1_ (y1_.ref h1_ (y1_.2.1 _ finC_27).2.1) (g.row (y1_.ref h1_ (y1_.2.1 _ finC_27).2.1)).1.2.2.2.2.2.2 (by decide) (by decide)
      have t12_ : (qN S37_2 (qO S37_2 (qO S37_2 16 9) 7) : Int) = (qN U114 (qO U114 (qO U114 16 9) 7) : Int) := by rw [o6_]; exact q2_.2.kL (j := 7) y1_ (y1_.ref h1_ (y1_.2.1 _ finC_27).2.1) (g.row (y1_.ref h1_ (y1_.2.1 _ finC_27).2.1)).1.2.2.2.2.2.1 (by decide) (by decide)
      have t13_ : (qN S37_2 (qO S37_2 (qO S37_2 16 9) 0) : Int) = (qN U114 (qO U114 (qO U114 16 9) 0) : Int) := by rw [o6_]; exact q2_.2.kL (j := 0) y1_ (y1_.ref h1_ (y1_.2.1 _ finC_27).2.1) (g.row (y1_.ref h1_ (y1_.2.1 _ finC_27).2.1)).1.1 (by decide) (by decide)
      have t14_ : (qN S37_2 (qO S37_2 (qO S37_2 16 9) 6) : Int) = (qN U114 (qO U114 (qO U114 16 9) 6) : Int) := by rw [o6_]; exact q2_.2.kL (j := 6) y1_ (y1_.ref h1_ (y1_.2.1 _ finC_27).2.1) (g.row (y1_.ref h1_ (y1_.2.1 _ finC_27).2.1)).1.2.2.2.2.1 (by decide) (by decide)
      have t15_ : (qN S37_2 (qO S37_2 (qO S37_2 16 9) 3) : Int) = (qN U114 (qO U114 (qO U114 16 9) 3) : Int) := by rw [o6_]; exact q2_.2.kL (j := 3) y1_ (y1_.ref h1_ (y1_.2.1 _ finC_27).2.1) (g.row (y1_.ref h1_ (y1_.2.1 _ finC_27).2.1)).1.2.2.1 (by decide) (by decide)
      have t16_ : (qN S37_2 (qO S37_2 (qO S37_2 16 9) 5) : Int) = (qN U114 (qO U114 (qO U114 16 9) 5) : Int) := by rw [o6_]; exact q2_.2.kL (j := 5) y1_ (y1_.ref h1_ (y1_.2.1 _ finC_27).2.1) (g.row (y1_.ref h1_ (y1_.2.1 _ finC_27).2.1)).1.2.2.2.1 (by decide) (by decide)
      have t17_ : (qN S37_2 (qO S37_2 16 2) : Int) = (qN U114 (qO U114 16 2) : Int) := q2_.2.kL (j := 2) y1_ (y1_.2.1 _ finC_27).2.1 (y1_.ptr ptrC_5) (by decide) (by decide)
      have p18_ : qR S37_2 16 8 = some (qO S37_2 16 8) := q2_.2.kP (y1_.2.1 _ finC_27).2.1 h0_ (by decide) (by decide)
      have p19_ : qR S37_2 16 9 = some (qO S37_2 16 9) := q2_.2.kP (y1_.2.1 _ finC_27).2.1 h1_ (by decide) (by decide)
      have g : ShC B S37_2 := q2_.1.1
      intro a39_20 ea39_20 
      have ga39_20 := congrArg Int32.toInt ea39_20
      refine ih114 g p18_ p19_ ?_ ?_ ?_ ?_ ?_
      · have s21_ := (g.row (y3_.ref p19_ (y3_.2.1 _ finC_27).2.1)).2
        have s22_ := y3_.len9 (y3_.ref (y3_.ptr ptrC_5) (y3_.2.1 _ finC_27).2.1) (by decide)
        have s23_ := g.chk
        unfold ChKk at s23_
        have n1_ := rgI a39_20
        have n2_ := rgI v114_3
        have n3_ := rgI (qI U114 (qO U114 16 9) 2)
        have n4_ := rgI v114_1
        have n5_ := rgI v114_2
        have n6_ := rgI a35_1
        have n7_ := rgI (fX8_targetAt U114 (qO U114 16 9) v114_1 v114_3)
        have n9_ := lo_1k
        have n9_ := t_addD (a := v114_3) (b := Int32.ofInt 1)
        have n10_ := rgI (v114_3 + Int32.ofInt 1)
        omega
      · have s24_ := (g.row (y3_.ref p19_ (y3_.2.1 _ finC_27).2.1)).2
        have s25_ := y3_.len9 (y3_.ref (y3_.ptr ptrC_5) (y3_.2.1 _ finC_27).2.1) (by decide)
        have s26_ := g.chk
        unfold ChKk at s26_
        have n1_ := rgI (qI S37_2 (qO S37_2 16 9) 2)
        have n2_ := rgI v114_3
        have n3_ := rgI (qI U114 (qO U114 16 9) 2)
        have n4_ := rgI v114_1
        have n5_ := rgI v114_2
        have n6_ := rgI a35_1
        have n7_ := rgI (fX8_targetAt U114 (qO U114 16 9) v114_1 v114_3)
        have n8_ := rgI a39_20
        have n10_ := lo_1k
        have n10_ := t_addD (a := v114_3) (b := Int32.ofInt 1)
        have n11_ := rgI (v114_3 + Int32.ofInt 1)
        omega
      · have s27_ := (g.row (y3_.ref p19_ (y3_.2.1 _ finC_27).2.1)).2
        have s28_ := y3_.len9 (y3_.ref (y3_.ptr ptrC_5) (y3_.2.1 _ finC_27).2.1) (by decide)
        have s29_ := g.chk
        unfold ChKk at s29_
        have n1_ := rgI v114_1
        have n2_ := rgI v114_3
        have n3_ := rgI (qI U114 (qO U114 16 9) 2)
        have n4_ := rgI v114_2
        have n5_ := rgI a35_1
        have n6_ := rgI (fX8_targetAt U114 (qO U114 16 9) v114_1 v114_3)
        have n7_ := rgI a39_20
        have n9_ := lo_1k
        have n9_ := t_addD (a := v114_3) (b := Int32.ofInt 1)
        have n10_ := rgI (v114_3 + Int32.ofInt 1)
        omega
      · have s30_ := (g.row (y3_.ref p19_ (y3_.2.1 _ finC_27).2.1)).2
        have s31_ := y3_.len9 (y3_.ref (y3_.ptr ptrC_5) (y3_.2.1 _ finC_27).2.1) (by decide)
        have s32_ := g.chk
        unfold ChKk at s32_
        have n1_ := rgI v114_1
        have n2_ := rgI v114_3
        have n3_ := rgI (qI U114 (qO U114 16 9) 2)
        have n4_ := rgI v114_2
        have n5_ := rgI a35_1
        have n6_ := rgI (fX8_targetAt U114 (qO U114 16 9) v114_1 v114_3)
        have n7_ := rgI a39_20
        have n9_ := lo_1k
        have n9_ := t_addD (a := v114_3) (b := Int32.ofInt 1)
        have n10_ := rgI (v114_3 + Int32.ofInt 1)
        omega
      · have s33_ := (g.row (y3_.ref p19_ (y3_.2.1 _ finC_27).2.1)).2
        have s34_ := y3_.len9 (y3_.ref (y3_.ptr ptrC_5) (y3_.2.1 _ finC_27).2.1) (by decide)
        have s35_ := g.chk
        unfold ChKk at s35_
        have n1_ := rgI a39_20
        have n2_ := rgI v114_3
        have n3_ := rgI (qI U114 (qO U114 16 9) 2)
        have n4_ := rgI v114_1
        have n5_ := rgI v114_2
        have n6_ := rgI a35_1
        have n7_ := rgI (fX8_targetAt U114 (qO U114 16 9) v114_1 v114_3)
        have n9_ := lo_1k
        have n9_ := t_addD (a := v114_3) (b := Int32.ofInt 1)
        have n10_ := rgI (v114_3 + Int32.ofInt 1)
        omega
set_option maxRecDepth 100000 in
theorem sg_X1_flowFrom_L30 {B : Nat × Nat} : ∀ (n : Nat) {U30 : MS} {v30_1 : Int32} {v30_2 : Int32}, ShC B U30 → qR U30 16 8 = some (qO U30 16 8) → qR U30 16 9 = some (qO U30 16 9) → 0 ≤ v30_2.toInt → (qI U30 (qO U30 16 9) 2).toInt ≤ (qN U30 (qO U30 16 2) : Int) → 0 ≤ v30_1.toInt → v30_1.toInt < (qN U30 (qO U30 16 2) : Int) → 2147483648 - v30_2.toInt < n → w_X1_flowFrom_L30 (fun u => ShC B u ∧ (True)) n U30 v30_1 v30_2 := by
  intro n
  induction n with
  | zero => intro U30 v30_1 v30_2 g h0_ h1_ j0_ j1_ j2_ j3_ hm_; exfalso; have := rgI v30_1; have := rgI v30_2; omega
  | succ n ih30 =>
    intro U30 v30_1 v30_2 g h0_ h1_ j0_ j1_ j2_ j3_ hm_
    unfold w_X1_flowFrom_L30
    intro y5_
    refine ⟨?_, ?_⟩
    · exact h1_
    refine ⟨fun c36_ => ?_, fun c36_ => ?_⟩
    · unfold w_X1_flowFrom_J72
      intro y6_
      refine ⟨_, frX1_takeUp y6_ (sgX1_takeUp y6_ g (by have s38_ := (g.row (y6_.ref h1_ (y6_.2.1 _ finC_27).2.1)).2; have s39_ := y6_.len9 (y6_.ref (y6_.ptr ptrC_5) (y6_.2.1 _ finC_27).2.1) (by decide); have s40_ := g.chk; unfold ChKk at s40_; have n1_ := rgI v30_1; have n2_ := rgI v30_2; have n3_ := rgI (qI U30 (qO U30 16 9) 2); have n4_ := rgI (qI U30 (qO U30 16 9) 9); omega) (by have s41_ := (g.row (y6_.ref h1_ (y6_.2.1 _ finC_27).2.1)).2; have s42_ := y6_.len9 (y6_.ref (y6_.ptr ptrC_5) (y6_.2.1 _ finC_27).2.1) (by decide); have s43_ := g.chk; unfold ChKk at s43_; have n1_ := rgI v30_1; have n2_ := rgI v30_2; have n3_ := rgI (qI U30 (qO U30 16 9) 2); have n4_ := rgI (qI U30 (qO U30 16 9) 9); omega)), ?_⟩
      intro S8_37 q7_ y8_ y9_
      have o44_ : qO S8_37 16 9 = qO U30 16 9 := qO_eq (q7_.2.kO (y6_.2.1 _ finC_27).2.1 (by decide) (by decide))
      have t45_ : (qI S8_37 (qO S8_37 16 9) 4).toInt = (qI U30 (qO U30 16 9) 4).toInt := by rw [o44_]; exact congrArg Int32.toInt (q7_.2.kI (j := 4) (y6_.ref h1_ (y6_.2.1 _ finC_27).2.1) (by decide) (by decide))
      have t46_ : (qI S8_37 (qO S8_37 16 9) 9).toInt = (qI U30 (qO U30 16 9) 9).toInt := by rw [o44_]; exact congrArg Int32.toInt (q7_.2.kI (j := 9) (y6_.ref h1_ (y6_.2.1 _ finC_27).2.1) (by decide) (by decide))
      have t47_ : (qI S8_37 (qO S8_37 16 9) 2).toInt = (qI U30 (qO U30 16 9) 2).toInt := by rw [o44_]; exact congrArg Int32.toInt (q7_.2.kI (j := 2) (y6_.ref h1_ (y6_.2.1 _ finC_27).2.1) (by decide) (by decide))
      have t48_ : (qN S8_37 (qO S8_37 (qO S8_37 16 9) 1) : Int) = (qN U30 (qO U30 (qO U30 16 9) 1) : Int) := by rw [o44_]; exact q7_.2.kL (j := 1) y6_ (y6_.ref h1_ (y6_.2.1 _ finC_27).2.1) (g.row (y6_.ref h1_ (y6_.2.1 _ finC_27).2.1)).1.2.1 (by decide) (by decide)
      have t49_ : (qN S8_37 (qO S8_37 (qO S8_37 16 9) 8) : Int) = (qN U30 (qO U30 (qO U30 16 9) 8) : Int) := by rw [o44_]; exact q7_.2.kL (j := 8) y6_ (y6_.ref h1_ (y6_.2.1 _ finC_27).2.1) (g.row (y6_.ref h1_ (y6_.2.1 _ finC_27).2.1)).1.2.2.2.2.2.2 (by decide) (by decide)
      have t50_ : (qN S8_37 (qO S8_37 (qO S8_37 16 9) 7) : Int) = (qN U30 (qO U30 (qO U30 16 9) 7) : Int) := by rw [o44_]; exact q7_.2.kL (j := 7) y6_ (y6_.ref h1_ (y6_.2.1 _ finC_27).2.1) (g.row (y6_.ref h1_ (y6_.2.1 _ finC_27).2.1)).1.2.2.2.2.2.1 (by decide) (by decide)
      have t51_ : (qN S8_37 (qO S8_37 (qO S8_37 16 9) 0) : Int) = (qN U30 (qO U30 (qO U30 16 9) 0) : Int) := by rw [o44_]; exact q7_.2.kL (j := 0) y6_ (y6_.ref h1_ (y6_.2.1 _ finC_27).2.1) (g.row (y6_.ref h1_ (y6_.2.1 _ finC_27).2.1)).1.1 (by decide) (by decide)
      have t52_ : (qN S8_37 (qO S8_37 (qO S8_37 16 9) 6) : Int) = (qN U30 (qO U30 (qO U30 16 9) 6) : Int) := by rw [o44_]; exact q7_.2.kL (j := 6) y6_ (y6_.ref h1_ (y6_.2.1 _ finC_27).2.1) (g.row (y6_.ref h1_ (y6_.2.1 _ finC_27).2.1)).1.2.2.2.2.1 (by decide) (by decide)
      have t53_ : (qN S8_37 (qO S8_37 (qO S8_37 16 9) 3) : Int) = (qN U30 (qO U30 (qO U30 16 9) 3) : Int) := by rw [o44_]; exact q7_.2.kL (j := 3) y6_ (y6_.ref h1_ (y6_.2.1 _ finC_27).2.1) (g.row (y6_.ref h1_ (y6_.2.1 _ finC_27).2.1)).1.2.2.1 (by decide) (by decide)
      have t54_ : (qN S8_37 (qO S8_37 (qO S8_37 16 9) 5) : Int) = (qN U30 (qO U30 (qO U30 16 9) 5) : Int) := by rw [o44_]; exact q7_.2.kL (j := 5) y6_ (y6_.ref h1_ (y6_.2.1 _ finC_27).2.1) (g.row (y6_.ref h1_ (y6_.2.1 _ finC_27).2.1)).1.2.2.2.1 (by decide) (by decide)
      have t55_ : (qN S8_37 (qO S8_37 16 2) : Int) = (qN U30 (qO U30 16 2) : Int) := q7_.2.kL (j := 2) y6_ (y6_.2.1 _ finC_27).2.1 (y6_.ptr ptrC_5) (by decide) (by decide)
      have p56_ : qR S8_37 16 8 = some (qO S8_37 16 8) := q7_.2.kP (y6_.2.1 _ finC_27).2.1 h0_ (by decide) (by decide)
      have p57_ : qR S8_37 16 9 = some (qO S8_37 16 9) := q7_.2.kP (y6_.2.1 _ finC_27).2.1 h1_ (by decide) (by decide)
      have g : ShC B S8_37 := q7_.1.1
      refine ⟨_, frX1_goThrough y8_ (sgX1_goThrough y8_ g p56_ p57_), ?_⟩
      intro S11_58 q10_ y11_ y12_
      have o59_ : qO S11_58 16 9 = qO S8_37 16 9 := qO_eq (q10_.2.kO (y8_.2.1 _ finC_27).2.1 (by decide) (by decide))
      have t60_ : (qI S11_58 (qO S11_58 16 9) 4).toInt = (qI S8_37 (qO S8_37 16 9) 4).toInt := by rw [o59_]; exact congrArg Int32.toInt (q10_.2.kI (j := 4) (y8_.ref p57_ (y8_.2.1 _ finC_27).2.1) (by decide) (by decide))
      have t61_ : (qI S11_58 (qO S11_58 16 9) 9).toInt = (qI S8_37 (qO S8_37 16 9) 9).toInt := by rw [o59_]; exact congrArg Int32.toInt (q10_.2.kI (j := 9) (y8_.ref p57_ (y8_.2.1 _ finC_27).2.1) (by decide) (by decide))
      have t62_ : (qI S11_58 (qO S11_58 16 9) 2).toInt = (qI S8_37 (qO S8_37 16 9) 2).toInt := by rw [o59_]; exact congrArg Int32.toInt (q10_.2.kI (j := 2) (y8_.ref p57_ (y8_.2.1 _ finC_27).2.1) (by decide) (by decide))
      have t63_ : (qN S11_58 (qO S11_58 (qO S11_58 16 9) 1) : Int) = (qN S8_37 (qO S8_37 (qO S8_37 16 9) 1) : Int) := by rw [o59_]; exact q10_.2.kL (j := 1) y8_ (y8_.ref p57_ (y8_.2.1 _ finC_27).2.1) (g.row (y8_.ref p57_ (y8_.2.1 _ finC_27).2.1)).1.2.1 (by decide) (by decide)
      have t64_ : (qN S11_58 (qO S11_58 (qO S11_58 16 9) 8) : Int) = (qN S8_37 (qO S8_37 (qO S8_37 16 9) 8) : Int) := by rw [o59_]; exact q10_.2.kL (j := 8) y8_ (y8_.ref p57_ (y8_.2.1 _ finC_27).2.1) (g.row (y8_.ref p57_ (y8_.2.1 _ finC_27).2.1)).1.2.2.2.2.2.2 (by decide) (by decide)
      have t65_ : (qN S11_58 (qO S11_58 (qO S11_58 16 9) 7) : Int) = (qN S8_37 (qO S8_37 (qO S8_37 16 9) 7) : Int) := by rw [o59_]; exact q10_.2.kL (j := 7) y8_ (y8_.ref p57_ (y8_.2.1 _ finC_27).2.1) (g.row (y8_.ref p57_ (y8_.2.1 _ finC_27).2.1)).1.2.2.2.2.2.1 (by decide) (by decide)
      have t66_ : (qN S11_58 (qO S11_58 (qO S11_58 16 9) 0) : Int) = (qN S8_37 (qO S8_37 (qO S8_37 16 9) 0) : Int) := by rw [o59_]; exact q10_.2.kL (j := 0) y8_ (y8_.ref p57_ (y8_.2.1 _ finC_27).2.1) (g.row (y8_.ref p57_ (y8_.2.1 _ finC_27).2.1)).1.1 (by decide) (by decide)
      have t67_ : (qN S11_58 (qO S11_58 (qO S11_58 16 9) 6) : Int) = (qN S8_37 (qO S8_37 (qO S8_37 16 9) 6) : Int) := by rw [o59_]; exact q10_.2.kL (j := 6) y8_ (y8_.ref p57_ (y8_.2.1 _ finC_27).2.1) (g.row (y8_.ref p57_ (y8_.2.1 _ finC_27).2.1)).1.2.2.2.2.1 (by decide) (by decide)
      have t68_ : (qN S11_58 (qO S11_58 (qO S11_58 16 9) 3) : Int) = (qN S8_37 (qO S8_37 (qO S8_37 16 9) 3) : Int) := by rw [o59_]; exact q10_.2.kL (j := 3) y8_ (y8_.ref p57_ (y8_.2.1 _ finC_27).2.1) (g.row (y8_.ref p57_ (y8_.2.1 _ finC_27).2.1)).1.2.2.1 (by decide) (by decide)
      have t69_ : (qN S11_58 (qO S11_58 (qO S11_58 16 9) 5) : Int) = (qN S8_37 (qO S8_37 (qO S8_37 16 9) 5) : Int) := by rw [o59_]; exact q10_.2.kL (j := 5) y8_ (y8_.ref p57_ (y8_.2.1 _ finC_27).2.1) (g.row (y8_.ref p57_ (y8_.2.1 _ finC_27).2.1)).1.2.2.2.1 (by decide) (by decide)
      have t70_ : (qN S11_58 (qO S11_58 16 2) : Int) = (qN S8_37 (qO S8_37 16 2) : Int) := q10_.2.kL (j := 2) y8_ (y8_.2.1 _ finC_27).2.1 (y8_.ptr ptrC_5) (by decide) (by decide)
      have p71_ : qR S11_58 16 8 = some (qO S11_58 16 8) := q10_.2.kP (y8_.2.1 _ finC_27).2.1 p56_ (by decide) (by decide)
      have p72_ : qR S11_58 16 9 = some (qO S11_58 16 9) := q10_.2.kP (y8_.2.1 _ finC_27).2.1 p57_ (by decide) (by decide)
      have g : ShC B S11_58 := q10_.1.1
      refine ⟨?_, ?_⟩
      · exact p72_
      refine ⟨?_, ?_⟩
      · exact (dd_X8_opAt y11_ g (y11_.ref p72_ (y11_.2.1 _ finC_27).2.1))
      intro a18_73 ea18_73 
      have ga18_73 := congrArg Int32.toInt ea18_73
      refine ⟨?_, ?_⟩
      · exact dd_X6_goesOn
      intro a22_74 ea22_74 
      have ga22_74 := congrArg Int32.toInt ea22_74
      refine ⟨fun c75_ => ?_, fun c75_ => ?_⟩
      · unfold w_X1_flowFrom_J103
        intro y13_
        refine ⟨?_, ?_⟩
        · exact p72_
        refine ⟨?_, ?_⟩
        · exact (dd_X8_targetCount y13_ g (y13_.ref p72_ (y13_.2.1 _ finC_27).2.1))
        intro a28_76 ea28_76 
        have ga28_76 := congrArg Int32.toInt ea28_76
        refine ⟨(2147483648 - (0 : Int32).toInt).toNat + 1, ?_⟩
        refine sg_X1_flowFrom_L114  _ g p71_ p72_ ?_ ?_ ?_ ?_ ?_
        · have s77_ := (g.row (y13_.ref p72_ (y13_.2.1 _ finC_27).2.1)).2
          have s78_ := y13_.len9 (y13_.ref (y13_.ptr ptrC_5) (y13_.2.1 _ finC_27).2.1) (by decide)
          have s79_ := g.chk
          unfold ChKk at s79_
          have n1_ := li_0k
          have n2_ := rgI v30_2
          have n3_ := rgI (qI U30 (qO U30 16 9) 2)
          have n4_ := rgI v30_1
          have n5_ := rgI (qI U30 (qO U30 16 9) 9)
          have n6_ := rgI a18_73
          have n7_ := rgI (fX8_opAt S11_58 (qO S11_58 16 9) v30_1)
          have n8_ := rgI a22_74
          have n9_ := rgI (fX6_goesOn S11_58 a18_73)
          have n10_ := rgI a28_76
          have n11_ := rgI (fX8_targetCount S11_58 (qO S11_58 16 9) v30_1)
          omega
        · have s80_ := (g.row (y13_.ref p72_ (y13_.2.1 _ finC_27).2.1)).2
          have s81_ := y13_.len9 (y13_.ref (y13_.ptr ptrC_5) (y13_.2.1 _ finC_27).2.1) (by decide)
          have s82_ := g.chk
          unfold ChKk at s82_
          have n1_ := rgI (qI S11_58 (qO S11_58 16 9) 2)
          have n2_ := rgI v30_2
          have n3_ := rgI (qI U30 (qO U30 16 9) 2)
          have n4_ := rgI v30_1
          have n5_ := rgI (qI U30 (qO U30 16 9) 9)
          have n6_ := rgI a18_73
          have n7_ := rgI (fX8_opAt S11_58 (qO S11_58 16 9) v30_1)
          have n8_ := rgI a22_74
          have n9_ := rgI (fX6_goesOn S11_58 a18_73)
          have n10_ := rgI a28_76
          have n11_ := rgI (fX8_targetCount S11_58 (qO S11_58 16 9) v30_1)
          omega
        · have s83_ := (g.row (y13_.ref p72_ (y13_.2.1 _ finC_27).2.1)).2
          have s84_ := y13_.len9 (y13_.ref (y13_.ptr ptrC_5) (y13_.2.1 _ finC_27).2.1) (by decide)
          have s85_ := g.chk
          unfold ChKk at s85_
          have n1_ := rgI v30_1
          have n2_ := rgI v30_2
          have n3_ := rgI (qI U30 (qO U30 16 9) 2)
          have n4_ := rgI (qI U30 (qO U30 16 9) 9)
          have n5_ := rgI a18_73
          have n6_ := rgI (fX8_opAt S11_58 (qO S11_58 16 9) v30_1)
          have n7_ := rgI a22_74
          have n8_ := rgI (fX6_goesOn S11_58 a18_73)
          have n9_ := rgI a28_76
          have n10_ := rgI (fX8_targetCount S11_58 (qO S11_58 16 9) v30_1)
          omega
        · have s86_ := (g.row (y13_.ref p72_ (y13_.2.1 _ finC_27).2.1)).2
          have s87_ := y13_.len9 (y13_.ref (y13_.ptr ptrC_5) (y13_.2.1 _ finC_27).2.1) (by decide)
          have s88_ := g.chk
          unfold ChKk at s88_
          have n1_ := rgI v30_1
          have n2_ := rgI v30_2
          have n3_ := rgI (qI U30 (qO U30 16 9) 2)
          have n4_ := rgI (qI U30 (qO U30 16 9) 9)
          have n5_ := rgI a18_73
          have n6_ := rgI (fX8_opAt S11_58 (qO S11_58 16 9) v30_1)
          have n7_ := rgI a22_74
          have n8_ := rgI (fX6_goesOn S11_58 a18_73)
          have n9_ := rgI a28_76
          have n10_ := rgI (fX8_targetCount S11_58 (qO S11_58 16 9) v30_1)
          omega
        · have s89_ := (g.row (y13_.ref p72_ (y13_.2.1 _ finC_27).2.1)).2
          have s90_ := y13_.len9 (y13_.ref (y13_.ptr ptrC_5) (y13_.2.1 _ finC_27).2.1) (by decide)
          have s91_ := g.chk
          unfold ChKk at s91_
          have n1_ := li_0k
          have n2_ := rgI v30_2
          have n3_ := rgI (qI U30 (qO U30 16 9) 2)
          have n4_ := rgI v30_1
          have n5_ := rgI (qI U30 (qO U30 16 9) 9)
          have n6_ := rgI a18_73
          have n7_ := rgI (fX8_opAt S11_58 (qO S11_58 16 9) v30_1)
          have n8_ := rgI a22_74
          have n9_ := rgI (fX6_goesOn S11_58 a18_73)
          have n10_ := rgI a28_76
          have n11_ := rgI (fX8_targetCount S11_58 (qO S11_58 16 9) v30_1)
          omega
      · refine ⟨_, frX1_comeTo y11_ (sgX1_comeTo y11_ g p72_ (by have s93_ := (g.row (y11_.ref p72_ (y11_.2.1 _ finC_27).2.1)).2; have s94_ := y11_.len9 (y11_.ref (y11_.ptr ptrC_5) (y11_.2.1 _ finC_27).2.1) (by decide); have s95_ := g.chk; unfold ChKk at s95_; have n1_ := rgI (qI S11_58 (qO S11_58 16 9) 2); have n2_ := rgI v30_2; have n3_ := rgI (qI U30 (qO U30 16 9) 2); have n4_ := rgI v30_1; have n5_ := rgI (qI U30 (qO U30 16 9) 9); have n6_ := rgI a18_73; have n7_ := rgI (fX8_opAt S11_58 (qO S11_58 16 9) v30_1); have n8_ := rgI a22_74; have n9_ := rgI (fX6_goesOn S11_58 a18_73); omega)), ?_⟩
        intro S43_92 q14_ y15_ y16_
        have o96_ : qO S43_92 16 9 = qO S11_58 16 9 := qO_eq (q14_.2.kO (y11_.2.1 _ finC_27).2.1 (by decide) (by decide))
        have t97_ : (qI S43_92 (qO S43_92 16 9) 4).toInt = (qI S11_58 (qO S11_58 16 9) 4).toInt := by rw [o96_]; exact congrArg Int32.toInt (q14_.2.kI (j := 4) (y11_.ref p72_ (y11_.2.1 _ finC_27).2.1) (by decide) (by decide))
        have t98_ : (qI S43_92 (qO S43_92 16 9) 9).toInt = (qI S11_58 (qO S11_58 16 9) 9).toInt := by rw [o96_]; exact congrArg Int32.toInt (q14_.2.kI (j := 9) (y11_.ref p72_ (y11_.2.1 _ finC_27).2.1) (by decide) (by decide))
        have t99_ : (qI S43_92 (qO S43_92 16 9) 2).toInt = (qI S11_58 (qO S11_58 16 9) 2).toInt := by rw [o96_]; exact congrArg Int32.toInt (q14_.2.kI (j := 2) (y11_.ref p72_ (y11_.2.1 _ finC_27).2.1) (by decide) (by decide))
        have t100_ : (qN S43_92 (qO S43_92 (qO S43_92 16 9) 1) : Int) = (qN S11_58 (qO S11_58 (qO S11_58 16 9) 1) : Int) := by rw [o96_]; exact q14_.2.kL (j := 1) y11_ (y11_.ref p72_ (y11_.2.1 _ finC_27).2.1) (g.row (y11_.ref p72_ (y11_.2.1 _ finC_27).2.1)).1.2.1 (by decide) (by decide)
        have t101_ : (qN S43_92 (qO S43_92 (qO S43_92 16 9) 8) : Int) = (qN S11_58 (qO S11_58 (qO S11_58 16 9) 8) : Int) := by rw [o96_]; exact q14_.2.kL (j := 8) y11_ (y11_.ref p72_ (y11_.2.1 _ finC_27).2.1) (g.row (y11_.ref p72_ (y11_.2.1 _ finC_27).2.1)).1.2.2.2.2.2.2 (by decide) (by decide)
        have t102_ : (qN S43_92 (qO S43_92 (qO S43_92 16 9) 7) : Int) = (qN S11_58 (qO S11_58 (qO S11_58 16 9) 7) : Int) := by rw [o96_]; exact q14_.2.kL (j := 7) y11_ (y11_.ref p72_ (y11_.2.1 _ finC_27).2.1) (g.row (y11_.ref p72_ (y11_.2.1 _ finC_27).2.1)).1.2.2.2.2.2.1 (by decide) (by decide)
        have t103_ : (qN S43_92 (qO S43_92 (qO S43_92 16 9) 0) : Int) = (qN S11_58 (qO S11_58 (qO S11_58 16 9) 0) : Int) := by rw [o96_]; exact q14_.2.kL (j := 0) y11_ (y11_.ref p72_ (y11_.2.1 _ finC_27).2.1) (g.row (y11_.ref p72_ (y11_.2.1 _ finC_27).2.1)).1.1 (by decide) (by decide)
        have t104_ : (qN S43_92 (qO S43_92 (qO S43_92 16 9) 6) : Int) = (qN S11_58 (qO S11_58 (qO S11_58 16 9) 6) : Int) := by rw [o96_]; exact q14_.2.kL (j := 6) y11_ (y11_.ref p72_ (y11_.2.1 _ finC_27).2.1) (g.row (y11_.ref p72_ (y11_.2.1 _ finC_27).2.1)).1.2.2.2.2.1 (by decide) (by decide)
        have t105_ : (qN S43_92 (qO S43_92 (qO S43_92 16 9) 3) : Int) = (qN S11_58 (qO S11_58 (qO S11_58 16 9) 3) : Int) := by rw [o96_]; exact q14_.2.kL (j := 3) y11_ (y11_.ref p72_ (y11_.2.1 _ finC_27).2.1) (g.row (y11_.ref p72_ (y11_.2.1 _ finC_27).2.1)).1.2.2.1 (by decide) (by decide)
        have t106_ : (qN S43_92 (qO S43_92 (qO S43_92 16 9) 5) : Int) = (qN S11_58 (qO S11_58 (qO S11_58 16 9) 5) : Int) := by rw [o96_]; exact q14_.2.kL (j := 5) y11_ (y11_.ref p72_ (y11_.2.1 _ finC_27).2.1) (g.row (y11_.ref p72_ (y11_.2.1 _ finC_27).2.1)).1.2.2.2.1 (by decide) (by decide)
        have t107_ : (qN S43_92 (qO S43_92 16 2) : Int) = (qN S11_58 (qO S11_58 16 2) : Int) := q14_.2.kL (j := 2) y11_ (y11_.2.1 _ finC_27).2.1 (y11_.ptr ptrC_5) (by decide) (by decide)
        have p108_ : qR S43_92 16 8 = some (qO S43_92 16 8) := q14_.2.kP (y11_.2.1 _ finC_27).2.1 p71_ (by decide) (by decide)
        have p109_ : qR S43_92 16 9 = some (qO S43_92 16 9) := q14_.2.kP (y11_.2.1 _ finC_27).2.1 p72_ (by decide) (by decide)
        have g : ShC B S43_92 := q14_.1.1
        unfold w_X1_flowFrom_J103
        intro y17_
        refine ⟨?_, ?_⟩
        · exact p109_
        refine ⟨?_, ?_⟩
        · exact (dd_X8_targetCount y17_ g (y17_.ref p109_ (y17_.2.1 _ finC_27).2.1))
        intro a28_110 ea28_110 
        have ga28_110 := congrArg Int32.toInt ea28_110
        refine ⟨(2147483648 - (0 : Int32).toInt).toNat + 1, ?_⟩
        refine sg_X1_flowFrom_L114  _ g p108_ p109_ ?_ ?_ ?_ ?_ ?_
        · have s111_ := (g.row (y17_.ref p109_ (y17_.2.1 _ finC_27).2.1)).2
          have s112_ := y17_.len9 (y17_.ref (y17_.ptr ptrC_5) (y17_.2.1 _ finC_27).2.1) (by decide)
          have s113_ := g.chk
          unfold ChKk at s113_
          have n1_ := li_0k
          have n2_ := rgI v30_2
          have n3_ := rgI (qI U30 (qO U30 16 9) 2)
          have n4_ := rgI v30_1
          have n5_ := rgI (qI U30 (qO U30 16 9) 9)
          have n6_ := rgI a18_73
          have n7_ := rgI (fX8_opAt S11_58 (qO S11_58 16 9) v30_1)
          have n8_ := rgI a22_74
          have n9_ := rgI (fX6_goesOn S11_58 a18_73)
          have n10_ := rgI a28_110
          have n11_ := rgI (fX8_targetCount S43_92 (qO S43_92 16 9) v30_1)
          omega
        · have s114_ := (g.row (y17_.ref p109_ (y17_.2.1 _ finC_27).2.1)).2
          have s115_ := y17_.len9 (y17_.ref (y17_.ptr ptrC_5) (y17_.2.1 _ finC_27).2.1) (by decide)
          have s116_ := g.chk
          unfold ChKk at s116_
          have n1_ := rgI (qI S43_92 (qO S43_92 16 9) 2)
          have n2_ := rgI v30_2
          have n3_ := rgI (qI U30 (qO U30 16 9) 2)
          have n4_ := rgI v30_1
          have n5_ := rgI (qI U30 (qO U30 16 9) 9)
          have n6_ := rgI a18_73
          have n7_ := rgI (fX8_opAt S11_58 (qO S11_58 16 9) v30_1)
          have n8_ := rgI a22_74
          have n9_ := rgI (fX6_goesOn S11_58 a18_73)
          have n10_ := rgI a28_110
          have n11_ := rgI (fX8_targetCount S43_92 (qO S43_92 16 9) v30_1)
          omega
        · have s117_ := (g.row (y17_.ref p109_ (y17_.2.1 _ finC_27).2.1)).2
          have s118_ := y17_.len9 (y17_.ref (y17_.ptr ptrC_5) (y17_.2.1 _ finC_27).2.1) (by decide)
          have s119_ := g.chk
          unfold ChKk at s119_
          have n1_ := rgI v30_1
          have n2_ := rgI v30_2
          have n3_ := rgI (qI U30 (qO U30 16 9) 2)
          have n4_ := rgI (qI U30 (qO U30 16 9) 9)
          have n5_ := rgI a18_73
          have n6_ := rgI (fX8_opAt S11_58 (qO S11_58 16 9) v30_1)
          have n7_ := rgI a22_74
          have n8_ := rgI (fX6_goesOn S11_58 a18_73)
          have n9_ := rgI a28_110
          have n10_ := rgI (fX8_targetCount S43_92 (qO S43_92 16 9) v30_1)
          omega
        · have s120_ := (g.row (y17_.ref p109_ (y17_.2.1 _ finC_27).2.1)).2
          have s121_ := y17_.len9 (y17_.ref (y17_.ptr ptrC_5) (y17_.2.1 _ finC_27).2.1) (by decide)
          have s122_ := g.chk
          unfold ChKk at s122_
          have n1_ := rgI v30_1
          have n2_ := rgI v30_2
          have n3_ := rgI (qI U30 (qO U30 16 9) 2)
          have n4_ := rgI (qI U30 (qO U30 16 9) 9)
          have n5_ := rgI a18_73
          have n6_ := rgI (fX8_opAt S11_58 (qO S11_58 16 9) v30_1)
          have n7_ := rgI a22_74
          have n8_ := rgI (fX6_goesOn S11_58 a18_73)
          have n9_ := rgI a28_110
          have n10_ := rgI (fX8_targetCount S43_92 (qO S43_92 16 9) v30_1)
          omega
        · have s123_ := (g.row (y17_.ref p109_ (y17_.2.1 _ finC_27).2.1)).2
          have s124_ := y17_.len9 (y17_.ref (y17_.ptr ptrC_5) (y17_.2.1 _ finC_27).2.1) (by decide)
          have s125_ := g.chk
          unfold ChKk at s125_
          have n1_ := li_0k
          have n2_ := rgI v30_2
          have n3_ := rgI (qI U30 (qO U30 16 9) 2)
          have n4_ := rgI v30_1
          have n5_ := rgI (qI U30 (qO U30 16 9) 9)
          have n6_ := rgI a18_73
          have n7_ := rgI (fX8_opAt S11_58 (qO S11_58 16 9) v30_1)
          have n8_ := rgI a22_74
          have n9_ := rgI (fX6_goesOn S11_58 a18_73)
          have n10_ := rgI a28_110
          have n11_ := rgI (fX8_targetCount S43_92 (qO S43_92 16 9) v30_1)
          omega
    · refine ⟨?_, ?_⟩
      · exact h1_
      refine ⟨?_, ?_⟩
      · exact (dd_X8_catchHas y5_ g (y5_.ref h1_ (y5_.2.1 _ finC_27).2.1))
      intro a61_126 ea61_126 
      have ga61_126 := congrArg Int32.toInt ea61_126
      refine ⟨fun c127_ => ?_, fun c127_ => ?_⟩
      · unfold w_X1_flowFrom_J66
        intro y18_
        intro a62_128 ea62_128 
        have ga62_128 := congrArg Int32.toInt ea62_128
        refine ih30 g h0_ h1_ ?_ ?_ ?_ ?_ ?_
        · have s129_ := (g.row (y18_.ref h1_ (y18_.2.1 _ finC_27).2.1)).2
          have s130_ := y18_.len9 (y18_.ref (y18_.ptr ptrC_5) (y18_.2.1 _ finC_27).2.1) (by decide)
          have s131_ := g.chk
          unfold ChKk at s131_
          have n1_ := rgI a62_128
          have n2_ := rgI v30_2
          have n3_ := rgI (qI U30 (qO U30 16 9) 2)
          have n4_ := rgI v30_1
          have n5_ := rgI (qI U30 (qO U30 16 9) 9)
          have n6_ := rgI a61_126
          have n7_ := rgI (fX8_catchHas U30 (qO U30 16 9) v30_2 v30_1)
          have n9_ := lo_1k
          have n9_ := t_addD (a := v30_2) (b := Int32.ofInt 1)
          have n10_ := rgI (v30_2 + Int32.ofInt 1)
          omega
        · have s132_ := (g.row (y18_.ref h1_ (y18_.2.1 _ finC_27).2.1)).2
          have s133_ := y18_.len9 (y18_.ref (y18_.ptr ptrC_5) (y18_.2.1 _ finC_27).2.1) (by decide)
          have s134_ := g.chk
          unfold ChKk at s134_
          have n1_ := rgI (qI U30 (qO U30 16 9) 2)
          have n2_ := rgI v30_2
          have n3_ := rgI v30_1
          have n4_ := rgI (qI U30 (qO U30 16 9) 9)
          have n5_ := rgI a61_126
          have n6_ := rgI (fX8_catchHas U30 (qO U30 16 9) v30_2 v30_1)
          have n7_ := rgI a62_128
          have n9_ := lo_1k
          have n9_ := t_addD (a := v30_2) (b := Int32.ofInt 1)
          have n10_ := rgI (v30_2 + Int32.ofInt 1)
          omega
        · have s135_ := (g.row (y18_.ref h1_ (y18_.2.1 _ finC_27).2.1)).2
          have s136_ := y18_.len9 (y18_.ref (y18_.ptr ptrC_5) (y18_.2.1 _ finC_27).2.1) (by decide)
          have s137_ := g.chk
          unfold ChKk at s137_
          have n1_ := rgI v30_1
          have n2_ := rgI v30_2
          have n3_ := rgI (qI U30 (qO U30 16 9) 2)
          have n4_ := rgI (qI U30 (qO U30 16 9) 9)
          have n5_ := rgI a61_126
          have n6_ := rgI (fX8_catchHas U30 (qO U30 16 9) v30_2 v30_1)
          have n7_ := rgI a62_128
          have n9_ := lo_1k
          have n9_ := t_addD (a := v30_2) (b := Int32.ofInt 1)
          have n10_ := rgI (v30_2 + Int32.ofInt 1)
          omega
        · have s138_ := (g.row (y18_.ref h1_ (y18_.2.1 _ finC_27).2.1)).2
          have s139_ := y18_.len9 (y18_.ref (y18_.ptr ptrC_5) (y18_.2.1 _ finC_27).2.1) (by decide)
          have s140_ := g.chk
          unfold ChKk at s140_
          have n1_ := rgI v30_1
          have n2_ := rgI v30_2
          have n3_ := rgI (qI U30 (qO U30 16 9) 2)
          have n4_ := rgI (qI U30 (qO U30 16 9) 9)
          have n5_ := rgI a61_126
          have n6_ := rgI (fX8_catchHas U30 (qO U30 16 9) v30_2 v30_1)
          have n7_ := rgI a62_128
          have n9_ := lo_1k
          have n9_ := t_addD (a := v30_2) (b := Int32.ofInt 1)
          have n10_ := rgI (v30_2 + Int32.ofInt 1)
          omega
        · have s141_ := (g.row (y18_.ref h1_ (y18_.2.1 _ finC_27).2.1)).2
          have s142_ := y18_.len9 (y18_.ref (y18_.ptr ptrC_5) (y18_.2.1 _ finC_27).2.1) (by decide)
          have s143_ := g.chk
          unfold ChKk at s143_
          have n1_ := rgI a62_128
          have n2_ := rgI v30_2
          have n3_ := rgI (qI U30 (qO U30 16 9) 2)
          have n4_ := rgI v30_1
          have n5_ := rgI (qI U30 (qO U30 16 9) 9)
          have n6_ := rgI a61_126
          have n7_ := rgI (fX8_catchHas U30 (qO U30 16 9) v30_2 v30_1)
          have n9_ := lo_1k
          have n9_ := t_addD (a := v30_2) (b := Int32.ofInt 1)
          have n10_ := rgI (v30_2 + Int32.ofInt 1)
          omega
      · refine ⟨?_, ?_⟩
        · exact h1_
        refine ⟨?_, ?_⟩
        · exact (g.row (y5_.ref h1_ (y5_.2.1 _ finC_27).2.1)).1.2.2.2.2.2.1
        refine ⟨?_, ?_⟩
        · have s144_ := (g.row (y5_.ref h1_ (y5_.2.1 _ finC_27).2.1)).2
          have s145_ := y5_.len9 (y5_.ref (y5_.ptr ptrC_5) (y5_.2.1 _ finC_27).2.1) (by decide)
          have s146_ := g.chk
          unfold ChKk at s146_
          have n1_ := rgI v30_2
          have n2_ := rgI (qI U30 (qO U30 16 9) 2)
          have n3_ := rgI v30_1
          have n4_ := rgI (qI U30 (qO U30 16 9) 9)
          have n5_ := rgI a61_126
          have n6_ := rgI (fX8_catchHas U30 (qO U30 16 9) v30_2 v30_1)
          omega
        refine ⟨_, frX1_comeTo y5_ (sgX1_comeTo y5_ g h1_ (by have s148_ := (g.row (y5_.ref h1_ (y5_.2.1 _ finC_27).2.1)).2; have s149_ := y5_.len9 (y5_.ref (y5_.ptr ptrC_5) (y5_.2.1 _ finC_27).2.1) (by decide); have s150_ := g.chk; unfold ChKk at s150_; have n1_ := rgI (qI U30 (qO U30 16 9) 2); have n2_ := rgI v30_2; have n3_ := rgI v30_1; have n4_ := rgI (qI U30 (qO U30 16 9) 9); have n5_ := rgI a61_126; have n6_ := rgI (fX8_catchHas U30 (qO U30 16 9) v30_2 v30_1); omega)), ?_⟩
        intro S71_147 q19_ y20_ y21_
        have o151_ : qO S71_147 16 9 = qO U30 16 9 := qO_eq (q19_.2.kO (y5_.2.1 _ finC_27).2.1 (by decide) (by decide))
        have t152_ : (qI S71_147 (qO S71_147 16 9) 4).toInt = (qI U30 (qO U30 16 9) 4).toInt := by rw [o151_]; exact congrArg Int32.toInt (q19_.2.kI (j := 4) (y5_.ref h1_ (y5_.2.1 _ finC_27).2.1) (by decide) (by decide))
        have t153_ : (qI S71_147 (qO S71_147 16 9) 9).toInt = (qI U30 (qO U30 16 9) 9).toInt := by rw [o151_]; exact congrArg Int32.toInt (q19_.2.kI (j := 9) (y5_.ref h1_ (y5_.2.1 _ finC_27).2.1) (by decide) (by decide))
        have t154_ : (qI S71_147 (qO S71_147 16 9) 2).toInt = (qI U30 (qO U30 16 9) 2).toInt := by rw [o151_]; exact congrArg Int32.toInt (q19_.2.kI (j := 2) (y5_.ref h1_ (y5_.2.1 _ finC_27).2.1) (by decide) (by decide))
        have t155_ : (qN S71_147 (qO S71_147 (qO S71_147 16 9) 1) : Int) = (qN U30 (qO U30 (qO U30 16 9) 1) : Int) := by rw [o151_]; exact q19_.2.kL (j := 1) y5_ (y5_.ref h1_ (y5_.2.1 _ finC_27).2.1) (g.row (y5_.ref h1_ (y5_.2.1 _ finC_27).2.1)).1.2.1 (by decide) (by decide)
        have t156_ : (qN S71_147 (qO S71_147 (qO S71_147 16 9) 8) : Int) = (qN U30 (qO U30 (qO U30 16 9) 8) : Int) := by rw [o151_]; exact q19_.2.kL (j := 8) y5_ (y5_.ref h1_ (y5_.2.1 _ finC_27).2.1) (g.row (y5_.ref h1_ (y5_.2.1 _ finC_27).2.1)).1.2.2.2.2.2.2 (by decide) (by decide)
        have t157_ : (qN S71_147 (qO S71_147 (qO S71_147 16 9) 7) : Int) = (qN U30 (qO U30 (qO U30 16 9) 7) : Int) := by rw [o151_]; exact q19_.2.kL (j := 7) y5_ (y5_.ref h1_ (y5_.2.1 _ finC_27).2.1) (g.row (y5_.ref h1_ (y5_.2.1 _ finC_27).2.1)).1.2.2.2.2.2.1 (by decide) (by decide)
        have t158_ : (qN S71_147 (qO S71_147 (qO S71_147 16 9) 0) : Int) = (qN U30 (qO U30 (qO U30 16 9) 0) : Int) := by rw [o151_]; exact q19_.2.kL (j := 0) y5_ (y5_.ref h1_ (y5_.2.1 _ finC_27).2.1) (g.row (y5_.ref h1_ (y5_.2.1 _ finC_27).2.1)).1.1 (by decide) (by decide)
        have t159_ : (qN S71_147 (qO S71_147 (qO S71_147 16 9) 6) : Int) = (qN U30 (qO U30 (qO U30 16 9) 6) : Int) := by rw [o151_]; exact q19_.2.kL (j := 6) y5_ (y5_.ref h1_ (y5_.2.1 _ finC_27).2.1) (g.row (y5_.ref h1_ (y5_.2.1 _ finC_27).2.1)).1.2.2.2.2.1 (by decide) (by decide)
        have t160_ : (qN S71_147 (qO S71_147 (qO S71_147 16 9) 3) : Int) = (qN U30 (qO U30 (qO U30 16 9) 3) : Int) := by rw [o151_]; exact q19_.2.kL (j := 3) y5_ (y5_.ref h1_ (y5_.2.1 _ finC_27).2.1) (g.row (y5_.ref h1_ (y5_.2.1 _ finC_27).2.1)).1.2.2.1 (by decide) (by decide)
        have t161_ : (qN S71_147 (qO S71_147 (qO S71_147 16 9) 5) : Int) = (qN U30 (qO U30 (qO U30 16 9) 5) : Int) := by rw [o151_]; exact q19_.2.kL (j := 5) y5_ (y5_.ref h1_ (y5_.2.1 _ finC_27).2.1) (g.row (y5_.ref h1_ (y5_.2.1 _ finC_27).2.1)).1.2.2.2.1 (by decide) (by decide)
        have t162_ : (qN S71_147 (qO S71_147 16 2) : Int) = (qN U30 (qO U30 16 2) : Int) := q19_.2.kL (j := 2) y5_ (y5_.2.1 _ finC_27).2.1 (y5_.ptr ptrC_5) (by decide) (by decide)
        have p163_ : qR S71_147 16 8 = some (qO S71_147 16 8) := q19_.2.kP (y5_.2.1 _ finC_27).2.1 h0_ (by decide) (by decide)
        have p164_ : qR S71_147 16 9 = some (qO S71_147 16 9) := q19_.2.kP (y5_.2.1 _ finC_27).2.1 h1_ (by decide) (by decide)
        have g : ShC B S71_147 := q19_.1.1
        unfold w_X1_flowFrom_J66
        intro y22_
        intro a62_165 ea62_165 
        have ga62_165 := congrArg Int32.toInt ea62_165
        refine ih30 g p163_ p164_ ?_ ?_ ?_ ?_ ?_
        · have s166_ := (g.row (y22_.ref p164_ (y22_.2.1 _ finC_27).2.1)).2
          have s167_ := y22_.len9 (y22_.ref (y22_.ptr ptrC_5) (y22_.2.1 _ finC_27).2.1) (by decide)
          have s168_ := g.chk
          unfold ChKk at s168_
          have n1_ := rgI a62_165
          have n2_ := rgI v30_2
          have n3_ := rgI (qI U30 (qO U30 16 9) 2)
          have n4_ := rgI v30_1
          have n5_ := rgI (qI U30 (qO U30 16 9) 9)
          have n6_ := rgI a61_126
          have n7_ := rgI (fX8_catchHas U30 (qO U30 16 9) v30_2 v30_1)
          have n9_ := lo_1k
          have n9_ := t_addD (a := v30_2) (b := Int32.ofInt 1)
          have n10_ := rgI (v30_2 + Int32.ofInt 1)
          omega
        · have s169_ := (g.row (y22_.ref p164_ (y22_.2.1 _ finC_27).2.1)).2
          have s170_ := y22_.len9 (y22_.ref (y22_.ptr ptrC_5) (y22_.2.1 _ finC_27).2.1) (by decide)
          have s171_ := g.chk
          unfold ChKk at s171_
          have n1_ := rgI (qI S71_147 (qO S71_147 16 9) 2)
          have n2_ := rgI v30_2
          have n3_ := rgI (qI U30 (qO U30 16 9) 2)
          have n4_ := rgI v30_1
          have n5_ := rgI (qI U30 (qO U30 16 9) 9)
          have n6_ := rgI a61_126
          have n7_ := rgI (fX8_catchHas U30 (qO U30 16 9) v30_2 v30_1)
          have n8_ := rgI a62_165
          have n10_ := lo_1k
          have n10_ := t_addD (a := v30_2) (b := Int32.ofInt 1)
          have n11_ := rgI (v30_2 + Int32.ofInt 1)
          omega
        · have s172_ := (g.row (y22_.ref p164_ (y22_.2.1 _ finC_27).2.1)).2
          have s173_ := y22_.len9 (y22_.ref (y22_.ptr ptrC_5) (y22_.2.1 _ finC_27).2.1) (by decide)
          have s174_ := g.chk
          unfold ChKk at s174_
          have n1_ := rgI v30_1
          have n2_ := rgI v30_2
          have n3_ := rgI (qI U30 (qO U30 16 9) 2)
          have n4_ := rgI (qI U30 (qO U30 16 9) 9)
          have n5_ := rgI a61_126
          have n6_ := rgI (fX8_catchHas U30 (qO U30 16 9) v30_2 v30_1)
          have n7_ := rgI a62_165
          have n9_ := lo_1k
          have n9_ := t_addD (a := v30_2) (b := Int32.ofInt 1)
          have n10_ := rgI (v30_2 + Int32.ofInt 1)
          omega
        · have s175_ := (g.row (y22_.ref p164_ (y22_.2.1 _ finC_27).2.1)).2
          have s176_ := y22_.len9 (y22_.ref (y22_.ptr ptrC_5) (y22_.2.1 _ finC_27).2.1) (by decide)
          have s177_ := g.chk
          unfold ChKk at s177_
          have n1_ := rgI v30_1
          have n2_ := rgI v30_2
          have n3_ := rgI (qI U30 (qO U30 16 9) 2)
          have n4_ := rgI (qI U30 (qO U30 16 9) 9)
          have n5_ := rgI a61_126
          have n6_ := rgI (fX8_catchHas U30 (qO U30 16 9) v30_2 v30_1)
          have n7_ := rgI a62_165
          have n9_ := lo_1k
          have n9_ := t_addD (a := v30_2) (b := Int32.ofInt 1)
          have n10_ := rgI (v30_2 + Int32.ofInt 1)
          omega
        · have s178_ := (g.row (y22_.ref p164_ (y22_.2.1 _ finC_27).2.1)).2
          have s179_ := y22_.len9 (y22_.ref (y22_.ptr ptrC_5) (y22_.2.1 _ finC_27).2.1) (by decide)
          have s180_ := g.chk
          unfold ChKk at s180_
          have n1_ := rgI a62_165
          have n2_ := rgI v30_2
          have n3_ := rgI (qI U30 (qO U30 16 9) 2)
          have n4_ := rgI v30_1
          have n5_ := rgI (qI U30 (qO U30 16 9) 9)
          have n6_ := rgI a61_126
          have n7_ := rgI (fX8_catchHas U30 (qO U30 16 9) v30_2 v30_1)
          have n9_ := lo_1k
          have n9_ := t_addD (a := v30_2) (b := Int32.ofInt 1)
          have n10_ := rgI (v30_2 + Int32.ofInt 1)
          omega
set_option maxRecDepth 100000 in
theorem sgX1_flowFrom {B : Nat × Nat} {S : MS} {x1 : Int32} (hw : wfC S) (g : ShC B S) (qp0_ : qR S 16 8 = some (qO S 16 8)) (qp1_ : qR S 16 9 = some (qO S 16 9)) (a0_ : (qI S (qO S 16 9) 2).toInt ≤ (qN S (qO S 16 2) : Int)) (a1_ : 0 ≤ x1.toInt) (a2_ : x1.toInt < (qN S (qO S 16 2) : Int)) : wX1_flowFrom S x1 (fun u => ShC B u ∧ (True)) := by
  unfold wX1_flowFrom
  refine ⟨?_, ?_⟩
  · exact qp1_
  intro y23_
  refine ⟨_, frX8_isCaught hw (sgX8_isCaught hw g (hw.ref qp1_ (hw.2.1 _ finC_27).2.1)), ?_⟩
  intro r4_181 S5_181 q24_ y25_ y26_
  have o182_ : qO S5_181 16 9 = qO S 16 9 := qO_eq (q24_.2.kO (hw.2.1 _ finC_27).2.1 (by decide) (by decide))
  have t183_ : (qI S5_181 (qO S5_181 16 9) 4).toInt = (qI S (qO S 16 9) 4).toInt := by rw [o182_]; exact congrArg Int32.toInt (q24_.2.kI (j := 4) (hw.ref qp1_ (hw.2.1 _ finC_27).2.1) (by decide) (by decide))
  have t184_ : (qI S5_181 (qO S5_181 16 9) 9).toInt = (qI S (qO S 16 9) 9).toInt := by rw [o182_]; exact congrArg Int32.toInt (q24_.2.kI (j := 9) (hw.ref qp1_ (hw.2.1 _ finC_27).2.1) (by decide) (by decide))
  have t185_ : (qI S5_181 (qO S5_181 16 9) 2).toInt = (qI S (qO S 16 9) 2).toInt := by rw [o182_]; exact congrArg Int32.toInt (q24_.2.kI (j := 2) (hw.ref qp1_ (hw.2.1 _ finC_27).2.1) (by decide) (by decide))
  have t186_ : (qN S5_181 (qO S5_181 (qO S5_181 16 9) 1) : Int) = (qN S (qO S (qO S 16 9) 1) : Int) := by rw [o182_]; exact q24_.2.kL (j := 1) hw (hw.ref qp1_ (hw.2.1 _ finC_27).2.1) (g.row (hw.ref qp1_ (hw.2.1 _ finC_27).2.1)).1.2.1 (by decide) (by decide)
  have t187_ : (qN S5_181 (qO S5_181 (qO S5_181 16 9) 8) : Int) = (qN S (qO S (qO S 16 9) 8) : Int) := by rw [o182_]; exact q24_.2.kL (j := 8) hw (hw.ref qp1_ (hw.2.1 _ finC_27).2.1) (g.row (hw.ref qp1_ (hw.2.1 _ finC_27).2.1)).1.2.2.2.2.2.2 (by decide) (by decide)
  have t188_ : (qN S5_181 (qO S5_181 (qO S5_181 16 9) 7) : Int) = (qN S (qO S (qO S 16 9) 7) : Int) := by rw [o182_]; exact q24_.2.kL (j := 7) hw (hw.ref qp1_ (hw.2.1 _ finC_27).2.1) (g.row (hw.ref qp1_ (hw.2.1 _ finC_27).2.1)).1.2.2.2.2.2.1 (by decide) (by decide)
  have t189_ : (qN S5_181 (qO S5_181 (qO S5_181 16 9) 0) : Int) = (qN S (qO S (qO S 16 9) 0) : Int) := by rw [o182_]; exact q24_.2.kL (j := 0) hw (hw.ref qp1_ (hw.2.1 _ finC_27).2.1) (g.row (hw.ref qp1_ (hw.2.1 _ finC_27).2.1)).1.1 (by decide) (by decide)
  have t190_ : (qN S5_181 (qO S5_181 (qO S5_181 16 9) 6) : Int) = (qN S (qO S (qO S 16 9) 6) : Int) := by rw [o182_]; exact q24_.2.kL (j := 6) hw (hw.ref qp1_ (hw.2.1 _ finC_27).2.1) (g.row (hw.ref qp1_ (hw.2.1 _ finC_27).2.1)).1.2.2.2.2.1 (by decide) (by decide)
  have t191_ : (qN S5_181 (qO S5_181 (qO S5_181 16 9) 3) : Int) = (qN S (qO S (qO S 16 9) 3) : Int) := by rw [o182_]; exact q24_.2.kL (j := 3) hw (hw.ref qp1_ (hw.2.1 _ finC_27).2.1) (g.row (hw.ref qp1_ (hw.2.1 _ finC_27).2.1)).1.2.2.1 (by decide) (by decide)
  have t192_ : (qN S5_181 (qO S5_181 (qO S5_181 16 9) 5) : Int) = (qN S (qO S (qO S 16 9) 5) : Int) := by rw [o182_]; exact q24_.2.kL (j := 5) hw (hw.ref qp1_ (hw.2.1 _ finC_27).2.1) (g.row (hw.ref qp1_ (hw.2.1 _ finC_27).2.1)).1.2.2.2.1 (by decide) (by decide)
  have t193_ : (qN S5_181 (qO S5_181 16 2) : Int) = (qN S (qO S 16 2) : Int) := q24_.2.kL (j := 2) hw (hw.2.1 _ finC_27).2.1 (hw.ptr ptrC_5) (by decide) (by decide)
  have p194_ : qR S5_181 16 8 = some (qO S5_181 16 8) := q24_.2.kP (hw.2.1 _ finC_27).2.1 qp0_ (by decide) (by decide)
  have p195_ : qR S5_181 16 9 = some (qO S5_181 16 9) := q24_.2.kP (hw.2.1 _ finC_27).2.1 qp1_ (by decide) (by decide)
  have g : ShC B S5_181 := q24_.1.1
  refine ⟨fun c196_ => ?_, fun c196_ => ?_⟩
  · unfold w_X1_flowFrom_J72
    intro y27_
    refine ⟨_, frX1_takeUp y27_ (sgX1_takeUp y27_ g (by have s198_ := (g.row (y27_.ref p195_ (y27_.2.1 _ finC_27).2.1)).2; have s199_ := y27_.len9 (y27_.ref (y27_.ptr ptrC_5) (y27_.2.1 _ finC_27).2.1) (by decide); have s200_ := g.chk; unfold ChKk at s200_; have n1_ := rgI x1; have n2_ := rgI (qI S (qO S 16 9) 2); have n3_ := rgI r4_181; omega) (by have s201_ := (g.row (y27_.ref p195_ (y27_.2.1 _ finC_27).2.1)).2; have s202_ := y27_.len9 (y27_.ref (y27_.ptr ptrC_5) (y27_.2.1 _ finC_27).2.1) (by decide); have s203_ := g.chk; unfold ChKk at s203_; have n1_ := rgI x1; have n2_ := rgI (qI S (qO S 16 9) 2); have n3_ := rgI r4_181; omega)), ?_⟩
    intro S8_197 q28_ y29_ y30_
    have o204_ : qO S8_197 16 9 = qO S5_181 16 9 := qO_eq (q28_.2.kO (y27_.2.1 _ finC_27).2.1 (by decide) (by decide))
    have t205_ : (qI S8_197 (qO S8_197 16 9) 4).toInt = (qI S5_181 (qO S5_181 16 9) 4).toInt := by rw [o204_]; exact congrArg Int32.toInt (q28_.2.kI (j := 4) (y27_.ref p195_ (y27_.2.1 _ finC_27).2.1) (by decide) (by decide))
    have t206_ : (qI S8_197 (qO S8_197 16 9) 9).toInt = (qI S5_181 (qO S5_181 16 9) 9).toInt := by rw [o204_]; exact congrArg Int32.toInt (q28_.2.kI (j := 9) (y27_.ref p195_ (y27_.2.1 _ finC_27).2.1) (by decide) (by decide))
    have t207_ : (qI S8_197 (qO S8_197 16 9) 2).toInt = (qI S5_181 (qO S5_181 16 9) 2).toInt := by rw [o204_]; exact congrArg Int32.toInt (q28_.2.kI (j := 2) (y27_.ref p195_ (y27_.2.1 _ finC_27).2.1) (by decide) (by decide))
    have t208_ : (qN S8_197 (qO S8_197 (qO S8_197 16 9) 1) : Int) = (qN S5_181 (qO S5_181 (qO S5_181 16 9) 1) : Int) := by rw [o204_]; exact q28_.2.kL (j := 1) y27_ (y27_.ref p195_ (y27_.2.1 _ finC_27).2.1) (g.row (y27_.ref p195_ (y27_.2.1 _ finC_27).2.1)).1.2.1 (by decide) (by decide)
    have t209_ : (qN S8_197 (qO S8_197 (qO S8_197 16 9) 8) : Int) = (qN S5_181 (qO S5_181 (qO S5_181 16 9) 8) : Int) := by rw [o204_]; exact q28_.2.kL (j := 8) y27_ (y27_.ref p195_ (y27_.2.1 _ finC_27).2.1) (g.row (y27_.ref p195_ (y27_.2.1 _ finC_27).2.1)).1.2.2.2.2.2.2 (by decide) (by decide)
    have t210_ : (qN S8_197 (qO S8_197 (qO S8_197 16 9) 7) : Int) = (qN S5_181 (qO S5_181 (qO S5_181 16 9) 7) : Int) := by rw [o204_]; exact q28_.2.kL (j := 7) y27_ (y27_.ref p195_ (y27_.2.1 _ finC_27).2.1) (g.row (y27_.ref p195_ (y27_.2.1 _ finC_27).2.1)).1.2.2.2.2.2.1 (by decide) (by decide)
    have t211_ : (qN S8_197 (qO S8_197 (qO S8_197 16 9) 0) : Int) = (qN S5_181 (qO S5_181 (qO S5_181 16 9) 0) : Int) := by rw [o204_]; exact q28_.2.kL (j := 0) y27_ (y27_.ref p195_ (y27_.2.1 _ finC_27).2.1) (g.row (y27_.ref p195_ (y27_.2.1 _ finC_27).2.1)).1.1 (by decide) (by decide)
    have t212_ : (qN S8_197 (qO S8_197 (qO S8_197 16 9) 6) : Int) = (qN S5_181 (qO S5_181 (qO S5_181 16 9) 6) : Int) := by rw [o204_]; exact q28_.2.kL (j := 6) y27_ (y27_.ref p195_ (y27_.2.1 _ finC_27).2.1) (g.row (y27_.ref p195_ (y27_.2.1 _ finC_27).2.1)).1.2.2.2.2.1 (by decide) (by decide)
    have t213_ : (qN S8_197 (qO S8_197 (qO S8_197 16 9) 3) : Int) = (qN S5_181 (qO S5_181 (qO S5_181 16 9) 3) : Int) := by rw [o204_]; exact q28_.2.kL (j := 3) y27_ (y27_.ref p195_ (y27_.2.1 _ finC_27).2.1) (g.row (y27_.ref p195_ (y27_.2.1 _ finC_27).2.1)).1.2.2.1 (by decide) (by decide)
    have t214_ : (qN S8_197 (qO S8_197 (qO S8_197 16 9) 5) : Int) = (qN S5_181 (qO S5_181 (qO S5_181 16 9) 5) : Int) := by rw [o204_]; exact q28_.2.kL (j := 5) y27_ (y27_.ref p195_ (y27_.2.1 _ finC_27).2.1) (g.row (y27_.ref p195_ (y27_.2.1 _ finC_27).2.1)).1.2.2.2.1 (by decide) (by decide)
    have t215_ : (qN S8_197 (qO S8_197 16 2) : Int) = (qN S5_181 (qO S5_181 16 2) : Int) := q28_.2.kL (j := 2) y27_ (y27_.2.1 _ finC_27).2.1 (y27_.ptr ptrC_5) (by decide) (by decide)
    have p216_ : qR S8_197 16 8 = some (qO S8_197 16 8) := q28_.2.kP (y27_.2.1 _ finC_27).2.1 p194_ (by decide) (by decide)
    have p217_ : qR S8_197 16 9 = some (qO S8_197 16 9) := q28_.2.kP (y27_.2.1 _ finC_27).2.1 p195_ (by decide) (by decide)
    have g : ShC B S8_197 := q28_.1.1
    refine ⟨_, frX1_goThrough y29_ (sgX1_goThrough y29_ g p216_ p217_), ?_⟩
    intro S11_218 q31_ y32_ y33_
    have o219_ : qO S11_218 16 9 = qO S8_197 16 9 := qO_eq (q31_.2.kO (y29_.2.1 _ finC_27).2.1 (by decide) (by decide))
    have t220_ : (qI S11_218 (qO S11_218 16 9) 4).toInt = (qI S8_197 (qO S8_197 16 9) 4).toInt := by rw [o219_]; exact congrArg Int32.toInt (q31_.2.kI (j := 4) (y29_.ref p217_ (y29_.2.1 _ finC_27).2.1) (by decide) (by decide))
    have t221_ : (qI S11_218 (qO S11_218 16 9) 9).toInt = (qI S8_197 (qO S8_197 16 9) 9).toInt := by rw [o219_]; exact congrArg Int32.toInt (q31_.2.kI (j := 9) (y29_.ref p217_ (y29_.2.1 _ finC_27).2.1) (by decide) (by decide))
    have t222_ : (qI S11_218 (qO S11_218 16 9) 2).toInt = (qI S8_197 (qO S8_197 16 9) 2).toInt := by rw [o219_]; exact congrArg Int32.toInt (q31_.2.kI (j := 2) (y29_.ref p217_ (y29_.2.1 _ finC_27).2.1) (by decide) (by decide))
    have t223_ : (qN S11_218 (qO S11_218 (qO S11_218 16 9) 1) : Int) = (qN S8_197 (qO S8_197 (qO S8_197 16 9) 1) : Int) := by rw [o219_]; exact q31_.2.kL (j := 1) y29_ (y29_.ref p217_ (y29_.2.1 _ finC_27).2.1) (g.row (y29_.ref p217_ (y29_.2.1 _ finC_27).2.1)).1.2.1 (by decide) (by decide)
    have t224_ : (qN S11_218 (qO S11_218 (qO S11_218 16 9) 8) : Int) = (qN S8_197 (qO S8_197 (qO S8_197 16 9) 8) : Int) := by rw [o219_]; exact q31_.2.kL (j := 8) y29_ (y29_.ref p217_ (y29_.2.1 _ finC_27).2.1) (g.row (y29_.ref p217_ (y29_.2.1 _ finC_27).2.1)).1.2.2.2.2.2.2 (by decide) (by decide)
    have t225_ : (qN S11_218 (qO S11_218 (qO S11_218 16 9) 7) : Int) = (qN S8_197 (qO S8_197 (qO S8_197 16 9) 7) : Int) := by rw [o219_]; exact q31_.2.kL (j := 7) y29_ (y29_.ref p217_ (y29_.2.1 _ finC_27).2.1) (g.row (y29_.ref p217_ (y29_.2.1 _ finC_27).2.1)).1.2.2.2.2.2.1 (by decide) (by decide)
    have t226_ : (qN S11_218 (qO S11_218 (qO S11_218 16 9) 0) : Int) = (qN S8_197 (qO S8_197 (qO S8_197 16 9) 0) : Int) := by rw [o219_]; exact q31_.2.kL (j := 0) y29_ (y29_.ref p217_ (y29_.2.1 _ finC_27).2.1) (g.row (y29_.ref p217_ (y29_.2.1 _ finC_27).2.1)).1.1 (by decide) (by decide)
    have t227_ : (qN S11_218 (qO S11_218 (qO S11_218 16 9) 6) : Int) = (qN S8_197 (qO S8_197 (qO S8_197 16 9) 6) : Int) := by rw [o219_]; exact q31_.2.kL (j := 6) y29_ (y29_.ref p217_ (y29_.2.1 _ finC_27).2.1) (g.row (y29_.ref p217_ (y29_.2.1 _ finC_27).2.1)).1.2.2.2.2.1 (by decide) (by decide)
    have t228_ : (qN S11_218 (qO S11_218 (qO S11_218 16 9) 3) : Int) = (qN S8_197 (qO S8_197 (qO S8_197 16 9) 3) : Int) := by rw [o219_]; exact q31_.2.kL (j := 3) y29_ (y29_.ref p217_ (y29_.2.1 _ finC_27).2.1) (g.row (y29_.ref p217_ (y29_.2.1 _ finC_27).2.1)).1.2.2.1 (by decide) (by decide)
    have t229_ : (qN S11_218 (qO S11_218 (qO S11_218 16 9) 5) : Int) = (qN S8_197 (qO S8_197 (qO S8_197 16 9) 5) : Int) := by rw [o219_]; exact q31_.2.kL (j := 5) y29_ (y29_.ref p217_ (y29_.2.1 _ finC_27).2.1) (g.row (y29_.ref p217_ (y29_.2.1 _ finC_27).2.1)).1.2.2.2.1 (by decide) (by decide)
    have t230_ : (qN S11_218 (qO S11_218 16 2) : Int) = (qN S8_197 (qO S8_197 16 2) : Int) := q31_.2.kL (j := 2) y29_ (y29_.2.1 _ finC_27).2.1 (y29_.ptr ptrC_5) (by decide) (by decide)
    have p231_ : qR S11_218 16 8 = some (qO S11_218 16 8) := q31_.2.kP (y29_.2.1 _ finC_27).2.1 p216_ (by decide) (by decide)
    have p232_ : qR S11_218 16 9 = some (qO S11_218 16 9) := q31_.2.kP (y29_.2.1 _ finC_27).2.1 p217_ (by decide) (by decide)
    have g : ShC B S11_218 := q31_.1.1
    refine ⟨?_, ?_⟩
    · exact p232_
    refine ⟨?_, ?_⟩
    · exact (dd_X8_opAt y32_ g (y32_.ref p232_ (y32_.2.1 _ finC_27).2.1))
    intro a18_233 ea18_233 
    have ga18_233 := congrArg Int32.toInt ea18_233
    refine ⟨?_, ?_⟩
    · exact dd_X6_goesOn
    intro a22_234 ea22_234 
    have ga22_234 := congrArg Int32.toInt ea22_234
    refine ⟨fun c235_ => ?_, fun c235_ => ?_⟩
    · unfold w_X1_flowFrom_J103
      intro y34_
      refine ⟨?_, ?_⟩
      · exact p232_
      refine ⟨?_, ?_⟩
      · exact (dd_X8_targetCount y34_ g (y34_.ref p232_ (y34_.2.1 _ finC_27).2.1))
      intro a28_236 ea28_236 
      have ga28_236 := congrArg Int32.toInt ea28_236
      refine ⟨(2147483648 - (0 : Int32).toInt).toNat + 1, ?_⟩
      refine sg_X1_flowFrom_L114  _ g p231_ p232_ ?_ ?_ ?_ ?_ ?_
      · have s237_ := (g.row (y34_.ref p232_ (y34_.2.1 _ finC_27).2.1)).2
        have s238_ := y34_.len9 (y34_.ref (y34_.ptr ptrC_5) (y34_.2.1 _ finC_27).2.1) (by decide)
        have s239_ := g.chk
        unfold ChKk at s239_
        have n1_ := li_0k
        have n2_ := rgI (qI S (qO S 16 9) 2)
        have n3_ := rgI x1
        have n4_ := rgI r4_181
        have n5_ := rgI a18_233
        have n6_ := rgI (fX8_opAt S11_218 (qO S11_218 16 9) x1)
        have n7_ := rgI a22_234
        have n8_ := rgI (fX6_goesOn S11_218 a18_233)
        have n9_ := rgI a28_236
        have n10_ := rgI (fX8_targetCount S11_218 (qO S11_218 16 9) x1)
        omega
      · have s240_ := (g.row (y34_.ref p232_ (y34_.2.1 _ finC_27).2.1)).2
        have s241_ := y34_.len9 (y34_.ref (y34_.ptr ptrC_5) (y34_.2.1 _ finC_27).2.1) (by decide)
        have s242_ := g.chk
        unfold ChKk at s242_
        have n1_ := rgI (qI S11_218 (qO S11_218 16 9) 2)
        have n2_ := rgI (qI S (qO S 16 9) 2)
        have n3_ := rgI x1
        have n4_ := rgI r4_181
        have n5_ := rgI a18_233
        have n6_ := rgI (fX8_opAt S11_218 (qO S11_218 16 9) x1)
        have n7_ := rgI a22_234
        have n8_ := rgI (fX6_goesOn S11_218 a18_233)
        have n9_ := rgI a28_236
        have n10_ := rgI (fX8_targetCount S11_218 (qO S11_218 16 9) x1)
        omega
      · have s243_ := (g.row (y34_.ref p232_ (y34_.2.1 _ finC_27).2.1)).2
        have s244_ := y34_.len9 (y34_.ref (y34_.ptr ptrC_5) (y34_.2.1 _ finC_27).2.1) (by decide)
        have s245_ := g.chk
        unfold ChKk at s245_
        have n1_ := rgI x1
        have n2_ := rgI (qI S (qO S 16 9) 2)
        have n3_ := rgI r4_181
        have n4_ := rgI a18_233
        have n5_ := rgI (fX8_opAt S11_218 (qO S11_218 16 9) x1)
        have n6_ := rgI a22_234
        have n7_ := rgI (fX6_goesOn S11_218 a18_233)
        have n8_ := rgI a28_236
        have n9_ := rgI (fX8_targetCount S11_218 (qO S11_218 16 9) x1)
        omega
      · have s246_ := (g.row (y34_.ref p232_ (y34_.2.1 _ finC_27).2.1)).2
        have s247_ := y34_.len9 (y34_.ref (y34_.ptr ptrC_5) (y34_.2.1 _ finC_27).2.1) (by decide)
        have s248_ := g.chk
        unfold ChKk at s248_
        have n1_ := rgI x1
        have n2_ := rgI (qI S (qO S 16 9) 2)
        have n3_ := rgI r4_181
        have n4_ := rgI a18_233
        have n5_ := rgI (fX8_opAt S11_218 (qO S11_218 16 9) x1)
        have n6_ := rgI a22_234
        have n7_ := rgI (fX6_goesOn S11_218 a18_233)
        have n8_ := rgI a28_236
        have n9_ := rgI (fX8_targetCount S11_218 (qO S11_218 16 9) x1)
        omega
      · have s249_ := (g.row (y34_.ref p232_ (y34_.2.1 _ finC_27).2.1)).2
        have s250_ := y34_.len9 (y34_.ref (y34_.ptr ptrC_5) (y34_.2.1 _ finC_27).2.1) (by decide)
        have s251_ := g.chk
        unfold ChKk at s251_
        have n1_ := li_0k
        have n2_ := rgI (qI S (qO S 16 9) 2)
        have n3_ := rgI x1
        have n4_ := rgI r4_181
        have n5_ := rgI a18_233
        have n6_ := rgI (fX8_opAt S11_218 (qO S11_218 16 9) x1)
        have n7_ := rgI a22_234
        have n8_ := rgI (fX6_goesOn S11_218 a18_233)
        have n9_ := rgI a28_236
        have n10_ := rgI (fX8_targetCount S11_218 (qO S11_218 16 9) x1)
        omega
    · refine ⟨_, frX1_comeTo y32_ (sgX1_comeTo y32_ g p232_ (by have s253_ := (g.row (y32_.ref p232_ (y32_.2.1 _ finC_27).2.1)).2; have s254_ := y32_.len9 (y32_.ref (y32_.ptr ptrC_5) (y32_.2.1 _ finC_27).2.1) (by decide); have s255_ := g.chk; unfold ChKk at s255_; have n1_ := rgI (qI S11_218 (qO S11_218 16 9) 2); have n2_ := rgI (qI S (qO S 16 9) 2); have n3_ := rgI x1; have n4_ := rgI r4_181; have n5_ := rgI a18_233; have n6_ := rgI (fX8_opAt S11_218 (qO S11_218 16 9) x1); have n7_ := rgI a22_234; have n8_ := rgI (fX6_goesOn S11_218 a18_233); omega)), ?_⟩
      intro S43_252 q35_ y36_ y37_
      have o256_ : qO S43_252 16 9 = qO S11_218 16 9 := qO_eq (q35_.2.kO (y32_.2.1 _ finC_27).2.1 (by decide) (by decide))
      have t257_ : (qI S43_252 (qO S43_252 16 9) 4).toInt = (qI S11_218 (qO S11_218 16 9) 4).toInt := by rw [o256_]; exact congrArg Int32.toInt (q35_.2.kI (j := 4) (y32_.ref p232_ (y32_.2.1 _ finC_27).2.1) (by decide) (by decide))
      have t258_ : (qI S43_252 (qO S43_252 16 9) 9).toInt = (qI S11_218 (qO S11_218 16 9) 9).toInt := by rw [o256_]; exact congrArg Int32.toInt (q35_.2.kI (j := 9) (y32_.ref p232_ (y32_.2.1 _ finC_27).2.1) (by decide) (by decide))
      have t259_ : (qI S43_252 (qO S43_252 16 9) 2).toInt = (qI S11_218 (qO S11_218 16 9) 2).toInt := by rw [o256_]; exact congrArg Int32.toInt (q35_.2.kI (j := 2) (y32_.ref p232_ (y32_.2.1 _ finC_27).2.1) (by decide) (by decide))
      have t260_ : (qN S43_252 (qO S43_252 (qO S43_252 16 9) 1) : Int) = (qN S11_218 (qO S11_218 (qO S11_218 16 9) 1) : Int) := by rw [o256_]; exact q35_.2.kL (j := 1) y32_ (y32_.ref p232_ (y32_.2.1 _ finC_27).2.1) (g.row (y32_.ref p232_ (y32_.2.1 _ finC_27).2.1)).1.2.1 (by decide) (by decide)
      have t261_ : (qN S43_252 (qO S43_252 (qO S43_252 16 9) 8) : Int) = (qN S11_218 (qO S11_218 (qO S11_218 16 9) 8) : Int) := by rw [o256_]; exact q35_.2.kL (j := 8) y32_ (y32_.ref p232_ (y32_.2.1 _ finC_27).2.1) (g.row (y32_.ref p232_ (y32_.2.1 _ finC_27).2.1)).1.2.2.2.2.2.2 (by decide) (by decide)
      have t262_ : (qN S43_252 (qO S43_252 (qO S43_252 16 9) 7) : Int) = (qN S11_218 (qO S11_218 (qO S11_218 16 9) 7) : Int) := by rw [o256_]; exact q35_.2.kL (j := 7) y32_ (y32_.ref p232_ (y32_.2.1 _ finC_27).2.1) (g.row (y32_.ref p232_ (y32_.2.1 _ finC_27).2.1)).1.2.2.2.2.2.1 (by decide) (by decide)
      have t263_ : (qN S43_252 (qO S43_252 (qO S43_252 16 9) 0) : Int) = (qN S11_218 (qO S11_218 (qO S11_218 16 9) 0) : Int) := by rw [o256_]; exact q35_.2.kL (j := 0) y32_ (y32_.ref p232_ (y32_.2.1 _ finC_27).2.1) (g.row (y32_.ref p232_ (y32_.2.1 _ finC_27).2.1)).1.1 (by decide) (by decide)
      have t264_ : (qN S43_252 (qO S43_252 (qO S43_252 16 9) 6) : Int) = (qN S11_218 (qO S11_218 (qO S11_218 16 9) 6) : Int) := by rw [o256_]; exact q35_.2.kL (j := 6) y32_ (y32_.ref p232_ (y32_.2.1 _ finC_27).2.1) (g.row (y32_.ref p232_ (y32_.2.1 _ finC_27).2.1)).1.2.2.2.2.1 (by decide) (by decide)
      have t265_ : (qN S43_252 (qO S43_252 (qO S43_252 16 9) 3) : Int) = (qN S11_218 (qO S11_218 (qO S11_218 16 9) 3) : Int) := by rw [o256_]; exact q35_.2.kL (j := 3) y32_ (y32_.ref p232_ (y32_.2.1 _ finC_27).2.1) (g.row (y32_.ref p232_ (y32_.2.1 _ finC_27).2.1)).1.2.2.1 (by decide) (by decide)
      have t266_ : (qN S43_252 (qO S43_252 (qO S43_252 16 9) 5) : Int) = (qN S11_218 (qO S11_218 (qO S11_218 16 9) 5) : Int) := by rw [o256_]; exact q35_.2.kL (j := 5) y32_ (y32_.ref p232_ (y32_.2.1 _ finC_27).2.1) (g.row (y32_.ref p232_ (y32_.2.1 _ finC_27).2.1)).1.2.2.2.1 (by decide) (by decide)
      have t267_ : (qN S43_252 (qO S43_252 16 2) : Int) = (qN S11_218 (qO S11_218 16 2) : Int) := q35_.2.kL (j := 2) y32_ (y32_.2.1 _ finC_27).2.1 (y32_.ptr ptrC_5) (by decide) (by decide)
      have p268_ : qR S43_252 16 8 = some (qO S43_252 16 8) := q35_.2.kP (y32_.2.1 _ finC_27).2.1 p231_ (by decide) (by decide)
      have p269_ : qR S43_252 16 9 = some (qO S43_252 16 9) := q35_.2.kP (y32_.2.1 _ finC_27).2.1 p232_ (by decide) (by decide)
      have g : ShC B S43_252 := q35_.1.1
      unfold w_X1_flowFrom_J103
      intro y38_
      refine ⟨?_, ?_⟩
      · exact p269_
      refine ⟨?_, ?_⟩
      · exact (dd_X8_targetCount y38_ g (y38_.ref p269_ (y38_.2.1 _ finC_27).2.1))
      intro a28_270 ea28_270 
      have ga28_270 := congrArg Int32.toInt ea28_270
      refine ⟨(2147483648 - (0 : Int32).toInt).toNat + 1, ?_⟩
      refine sg_X1_flowFrom_L114  _ g p268_ p269_ ?_ ?_ ?_ ?_ ?_
      · have s271_ := (g.row (y38_.ref p269_ (y38_.2.1 _ finC_27).2.1)).2
        have s272_ := y38_.len9 (y38_.ref (y38_.ptr ptrC_5) (y38_.2.1 _ finC_27).2.1) (by decide)
        have s273_ := g.chk
        unfold ChKk at s273_
        have n1_ := li_0k
        have n2_ := rgI (qI S (qO S 16 9) 2)
        have n3_ := rgI x1
        have n4_ := rgI r4_181
        have n5_ := rgI a18_233
        have n6_ := rgI (fX8_opAt S11_218 (qO S11_218 16 9) x1)
        have n7_ := rgI a22_234
        have n8_ := rgI (fX6_goesOn S11_218 a18_233)
        have n9_ := rgI a28_270
        have n10_ := rgI (fX8_targetCount S43_252 (qO S43_252 16 9) x1)
        omega
      · have s274_ := (g.row (y38_.ref p269_ (y38_.2.1 _ finC_27).2.1)).2
        have s275_ := y38_.len9 (y38_.ref (y38_.ptr ptrC_5) (y38_.2.1 _ finC_27).2.1) (by decide)
        have s276_ := g.chk
        unfold ChKk at s276_
        have n1_ := rgI (qI S43_252 (qO S43_252 16 9) 2)
        have n2_ := rgI (qI S (qO S 16 9) 2)
        have n3_ := rgI x1
        have n4_ := rgI r4_181
        have n5_ := rgI a18_233
        have n6_ := rgI (fX8_opAt S11_218 (qO S11_218 16 9) x1)
        have n7_ := rgI a22_234
        have n8_ := rgI (fX6_goesOn S11_218 a18_233)
        have n9_ := rgI a28_270
        have n10_ := rgI (fX8_targetCount S43_252 (qO S43_252 16 9) x1)
        omega
      · have s277_ := (g.row (y38_.ref p269_ (y38_.2.1 _ finC_27).2.1)).2
        have s278_ := y38_.len9 (y38_.ref (y38_.ptr ptrC_5) (y38_.2.1 _ finC_27).2.1) (by decide)
        have s279_ := g.chk
        unfold ChKk at s279_
        have n1_ := rgI x1
        have n2_ := rgI (qI S (qO S 16 9) 2)
        have n3_ := rgI r4_181
        have n4_ := rgI a18_233
        have n5_ := rgI (fX8_opAt S11_218 (qO S11_218 16 9) x1)
        have n6_ := rgI a22_234
        have n7_ := rgI (fX6_goesOn S11_218 a18_233)
        have n8_ := rgI a28_270
        have n9_ := rgI (fX8_targetCount S43_252 (qO S43_252 16 9) x1)
        omega
      · have s280_ := (g.row (y38_.ref p269_ (y38_.2.1 _ finC_27).2.1)).2
        have s281_ := y38_.len9 (y38_.ref (y38_.ptr ptrC_5) (y38_.2.1 _ finC_27).2.1) (by decide)
        have s282_ := g.chk
        unfold ChKk at s282_
        have n1_ := rgI x1
        have n2_ := rgI (qI S (qO S 16 9) 2)
        have n3_ := rgI r4_181
        have n4_ := rgI a18_233
        have n5_ := rgI (fX8_opAt S11_218 (qO S11_218 16 9) x1)
        have n6_ := rgI a22_234
        have n7_ := rgI (fX6_goesOn S11_218 a18_233)
        have n8_ := rgI a28_270
        have n9_ := rgI (fX8_targetCount S43_252 (qO S43_252 16 9) x1)
        omega
      · have s283_ := (g.row (y38_.ref p269_ (y38_.2.1 _ finC_27).2.1)).2
        have s284_ := y38_.len9 (y38_.ref (y38_.ptr ptrC_5) (y38_.2.1 _ finC_27).2.1) (by decide)
        have s285_ := g.chk
        unfold ChKk at s285_
        have n1_ := li_0k
        have n2_ := rgI (qI S (qO S 16 9) 2)
        have n3_ := rgI x1
        have n4_ := rgI r4_181
        have n5_ := rgI a18_233
        have n6_ := rgI (fX8_opAt S11_218 (qO S11_218 16 9) x1)
        have n7_ := rgI a22_234
        have n8_ := rgI (fX6_goesOn S11_218 a18_233)
        have n9_ := rgI a28_270
        have n10_ := rgI (fX8_targetCount S43_252 (qO S43_252 16 9) x1)
        omega
  · refine ⟨_, frX1_takeUp y25_ (sgX1_takeUp y25_ g (by have s287_ := (g.row (y25_.ref p195_ (y25_.2.1 _ finC_27).2.1)).2; have s288_ := y25_.len9 (y25_.ref (y25_.ptr ptrC_5) (y25_.2.1 _ finC_27).2.1) (by decide); have s289_ := g.chk; unfold ChKk at s289_; have n1_ := rgI x1; have n2_ := rgI (qI S (qO S 16 9) 2); have n3_ := rgI r4_181; omega) (by have s290_ := (g.row (y25_.ref p195_ (y25_.2.1 _ finC_27).2.1)).2; have s291_ := y25_.len9 (y25_.ref (y25_.ptr ptrC_5) (y25_.2.1 _ finC_27).2.1) (by decide); have s292_ := g.chk; unfold ChKk at s292_; have n1_ := rgI x1; have n2_ := rgI (qI S (qO S 16 9) 2); have n3_ := rgI r4_181; omega)), ?_⟩
    intro S47_286 q39_ y40_ y41_
    have o293_ : qO S47_286 16 9 = qO S5_181 16 9 := qO_eq (q39_.2.kO (y25_.2.1 _ finC_27).2.1 (by decide) (by decide))
    have t294_ : (qI S47_286 (qO S47_286 16 9) 4).toInt = (qI S5_181 (qO S5_181 16 9) 4).toInt := by rw [o293_]; exact congrArg Int32.toInt (q39_.2.kI (j := 4) (y25_.ref p195_ (y25_.2.1 _ finC_27).2.1) (by decide) (by decide))
    have t295_ : (qI S47_286 (qO S47_286 16 9) 9).toInt = (qI S5_181 (qO S5_181 16 9) 9).toInt := by rw [o293_]; exact congrArg Int32.toInt (q39_.2.kI (j := 9) (y25_.ref p195_ (y25_.2.1 _ finC_27).2.1) (by decide) (by decide))
    have t296_ : (qI S47_286 (qO S47_286 16 9) 2).toInt = (qI S5_181 (qO S5_181 16 9) 2).toInt := by rw [o293_]; exact congrArg Int32.toInt (q39_.2.kI (j := 2) (y25_.ref p195_ (y25_.2.1 _ finC_27).2.1) (by decide) (by decide))
    have t297_ : (qN S47_286 (qO S47_286 (qO S47_286 16 9) 1) : Int) = (qN S5_181 (qO S5_181 (qO S5_181 16 9) 1) : Int) := by rw [o293_]; exact q39_.2.kL (j := 1) y25_ (y25_.ref p195_ (y25_.2.1 _ finC_27).2.1) (g.row (y25_.ref p195_ (y25_.2.1 _ finC_27).2.1)).1.2.1 (by decide) (by decide)
    have t298_ : (qN S47_286 (qO S47_286 (qO S47_286 16 9) 8) : Int) = (qN S5_181 (qO S5_181 (qO S5_181 16 9) 8) : Int) := by rw [o293_]; exact q39_.2.kL (j := 8) y25_ (y25_.ref p195_ (y25_.2.1 _ finC_27).2.1) (g.row (y25_.ref p195_ (y25_.2.1 _ finC_27).2.1)).1.2.2.2.2.2.2 (by decide) (by decide)
    have t299_ : (qN S47_286 (qO S47_286 (qO S47_286 16 9) 7) : Int) = (qN S5_181 (qO S5_181 (qO S5_181 16 9) 7) : Int) := by rw [o293_]; exact q39_.2.kL (j := 7) y25_ (y25_.ref p195_ (y25_.2.1 _ finC_27).2.1) (g.row (y25_.ref p195_ (y25_.2.1 _ finC_27).2.1)).1.2.2.2.2.2.1 (by decide) (by decide)
    have t300_ : (qN S47_286 (qO S47_286 (qO S47_286 16 9) 0) : Int) = (qN S5_181 (qO S5_181 (qO S5_181 16 9) 0) : Int) := by rw [o293_]; exact q39_.2.kL (j := 0) y25_ (y25_.ref p195_ (y25_.2.1 _ finC_27).2.1) (g.row (y25_.ref p195_ (y25_.2.1 _ finC_27).2.1)).1.1 (by decide) (by decide)
    have t301_ : (qN S47_286 (qO S47_286 (qO S47_286 16 9) 6) : Int) = (qN S5_181 (qO S5_181 (qO S5_181 16 9) 6) : Int) := by rw [o293_]; exact q39_.2.kL (j := 6) y25_ (y25_.ref p195_ (y25_.2.1 _ finC_27).2.1) (g.row (y25_.ref p195_ (y25_.2.1 _ finC_27).2.1)).1.2.2.2.2.1 (by decide) (by decide)
    have t302_ : (qN S47_286 (qO S47_286 (qO S47_286 16 9) 3) : Int) = (qN S5_181 (qO S5_181 (qO S5_181 16 9) 3) : Int) := by rw [o293_]; exact q39_.2.kL (j := 3) y25_ (y25_.ref p195_ (y25_.2.1 _ finC_27).2.1) (g.row (y25_.ref p195_ (y25_.2.1 _ finC_27).2.1)).1.2.2.1 (by decide) (by decide)
    have t303_ : (qN S47_286 (qO S47_286 (qO S47_286 16 9) 5) : Int) = (qN S5_181 (qO S5_181 (qO S5_181 16 9) 5) : Int) := by rw [o293_]; exact q39_.2.kL (j := 5) y25_ (y25_.ref p195_ (y25_.2.1 _ finC_27).2.1) (g.row (y25_.ref p195_ (y25_.2.1 _ finC_27).2.1)).1.2.2.2.1 (by decide) (by decide)
    have t304_ : (qN S47_286 (qO S47_286 16 2) : Int) = (qN S5_181 (qO S5_181 16 2) : Int) := q39_.2.kL (j := 2) y25_ (y25_.2.1 _ finC_27).2.1 (y25_.ptr ptrC_5) (by decide) (by decide)
    have p305_ : qR S47_286 16 8 = some (qO S47_286 16 8) := q39_.2.kP (y25_.2.1 _ finC_27).2.1 p194_ (by decide) (by decide)
    have p306_ : qR S47_286 16 9 = some (qO S47_286 16 9) := q39_.2.kP (y25_.2.1 _ finC_27).2.1 p195_ (by decide) (by decide)
    have g : ShC B S47_286 := q39_.1.1
    intro S49_307 eS49_307 y42_ y43_
    have f308_ : cfr [] [(41, 5)] S47_286 S49_307 := by rw [eS49_307]; exact cfr.oI y42_ (by decide)
    have o309_ : qO S49_307 16 9 = qO S47_286 16 9 := qO_eq (f308_.kO (y40_.2.1 _ finC_27).2.1 (by decide) (by decide))
    have t310_ : (qI S49_307 (qO S49_307 16 9) 4).toInt = (qI S47_286 (qO S47_286 16 9) 4).toInt := by rw [o309_]; exact congrArg Int32.toInt (f308_.kI (j := 4) (y40_.ref p306_ (y40_.2.1 _ finC_27).2.1) (by decide) (by decide))
    have t311_ : (qI S49_307 (qO S49_307 16 9) 9).toInt = (qI S47_286 (qO S47_286 16 9) 9).toInt := by rw [o309_]; exact congrArg Int32.toInt (f308_.kI (j := 9) (y40_.ref p306_ (y40_.2.1 _ finC_27).2.1) (by decide) (by decide))
    have t312_ : (qI S49_307 (qO S49_307 16 9) 2).toInt = (qI S47_286 (qO S47_286 16 9) 2).toInt := by rw [o309_]; exact congrArg Int32.toInt (f308_.kI (j := 2) (y40_.ref p306_ (y40_.2.1 _ finC_27).2.1) (by decide) (by decide))
    have t313_ : (qN S49_307 (qO S49_307 (qO S49_307 16 9) 1) : Int) = (qN S47_286 (qO S47_286 (qO S47_286 16 9) 1) : Int) := by rw [o309_]; exact f308_.kL (j := 1) y40_ (y40_.ref p306_ (y40_.2.1 _ finC_27).2.1) (g.row (y40_.ref p306_ (y40_.2.1 _ finC_27).2.1)).1.2.1 (by decide) (by decide)
    have t314_ : (qN S49_307 (qO S49_307 (qO S49_307 16 9) 8) : Int) = (qN S47_286 (qO S47_286 (qO S47_286 16 9) 8) : Int) := by rw [o309_]; exact f308_.kL (j := 8) y40_ (y40_.ref p306_ (y40_.2.1 _ finC_27).2.1) (g.row (y40_.ref p306_ (y40_.2.1 _ finC_27).2.1)).1.2.2.2.2.2.2 (by decide) (by decide)
    have t315_ : (qN S49_307 (qO S49_307 (qO S49_307 16 9) 7) : Int) = (qN S47_286 (qO S47_286 (qO S47_286 16 9) 7) : Int) := by rw [o309_]; exact f308_.kL (j := 7) y40_ (y40_.ref p306_ (y40_.2.1 _ finC_27).2.1) (g.row (y40_.ref p306_ (y40_.2.1 _ finC_27).2.1)).1.2.2.2.2.2.1 (by decide) (by decide)
    have t316_ : (qN S49_307 (qO S49_307 (qO S49_307 16 9) 0) : Int) = (qN S47_286 (qO S47_286 (qO S47_286 16 9) 0) : Int) := by rw [o309_]; exact f308_.kL (j := 0) y40_ (y40_.ref p306_ (y40_.2.1 _ finC_27).2.1) (g.row (y40_.ref p306_ (y40_.2.1 _ finC_27).2.1)).1.1 (by decide) (by decide)
    have t317_ : (qN S49_307 (qO S49_307 (qO S49_307 16 9) 6) : Int) = (qN S47_286 (qO S47_286 (qO S47_286 16 9) 6) : Int) := by rw [o309_]; exact f308_.kL (j := 6) y40_ (y40_.ref p306_ (y40_.2.1 _ finC_27).2.1) (g.row (y40_.ref p306_ (y40_.2.1 _ finC_27).2.1)).1.2.2.2.2.1 (by decide) (by decide)
    have t318_ : (qN S49_307 (qO S49_307 (qO S49_307 16 9) 3) : Int) = (qN S47_286 (qO S47_286 (qO S47_286 16 9) 3) : Int) := by rw [o309_]; exact f308_.kL (j := 3) y40_ (y40_.ref p306_ (y40_.2.1 _ finC_27).2.1) (g.row (y40_.ref p306_ (y40_.2.1 _ finC_27).2.1)).1.2.2.1 (by decide) (by decide)
    have t319_ : (qN S49_307 (qO S49_307 (qO S49_307 16 9) 5) : Int) = (qN S47_286 (qO S47_286 (qO S47_286 16 9) 5) : Int) := by rw [o309_]; exact f308_.kL (j := 5) y40_ (y40_.ref p306_ (y40_.2.1 _ finC_27).2.1) (g.row (y40_.ref p306_ (y40_.2.1 _ finC_27).2.1)).1.2.2.2.1 (by decide) (by decide)
    have t320_ : (qN S49_307 (qO S49_307 16 2) : Int) = (qN S47_286 (qO S47_286 16 2) : Int) := f308_.kL (j := 2) y40_ (y40_.2.1 _ finC_27).2.1 (y40_.ptr ptrC_5) (by decide) (by decide)
    have p321_ : qR S49_307 16 8 = some (qO S49_307 16 8) := f308_.kP (y40_.2.1 _ finC_27).2.1 p305_ (by decide) (by decide)
    have p322_ : qR S49_307 16 9 = some (qO S49_307 16 9) := f308_.kP (y40_.2.1 _ finC_27).2.1 p306_ (by decide) (by decide)
    have t323_ : (qI S49_307 16 5).toInt = (1 : Int32).toInt := by rw [eS49_307, qI_wI, if_pos ⟨rfl, rfl⟩]
    have g : ShC B S49_307 := ShC.ws y40_ g f308_ (by rw [eS49_307]; rfl) (by rw [eS49_307]; rfl) (by rw [eS49_307]; rfl) rfl rfl
    refine ⟨_, frX1_setPlace y43_ (sfX1_setPlace y43_ ), ?_⟩
    intro S51_324 q44_ y45_ y46_
    have o325_ : qO S51_324 16 9 = qO S49_307 16 9 := qO_eq (q44_.2.kO (y43_.2.1 _ finC_27).2.1 (by decide) (by decide))
    have t326_ : (qI S51_324 (qO S51_324 16 9) 4).toInt = (qI S49_307 (qO S49_307 16 9) 4).toInt := by rw [o325_]; exact congrArg Int32.toInt (q44_.2.kI (j := 4) (y43_.ref p322_ (y43_.2.1 _ finC_27).2.1) (by decide) (by decide))
    have t327_ : (qI S51_324 (qO S51_324 16 9) 9).toInt = (qI S49_307 (qO S49_307 16 9) 9).toInt := by rw [o325_]; exact congrArg Int32.toInt (q44_.2.kI (j := 9) (y43_.ref p322_ (y43_.2.1 _ finC_27).2.1) (by decide) (by decide))
    have t328_ : (qI S51_324 (qO S51_324 16 9) 2).toInt = (qI S49_307 (qO S49_307 16 9) 2).toInt := by rw [o325_]; exact congrArg Int32.toInt (q44_.2.kI (j := 2) (y43_.ref p322_ (y43_.2.1 _ finC_27).2.1) (by decide) (by decide))
    have t329_ : (qN S51_324 (qO S51_324 (qO S51_324 16 9) 1) : Int) = (qN S49_307 (qO S49_307 (qO S49_307 16 9) 1) : Int) := by rw [o325_]; exact q44_.2.kL (j := 1) y43_ (y43_.ref p322_ (y43_.2.1 _ finC_27).2.1) (g.row (y43_.ref p322_ (y43_.2.1 _ finC_27).2.1)).1.2.1 (by decide) (by decide)
    have t330_ : (qN S51_324 (qO S51_324 (qO S51_324 16 9) 8) : Int) = (qN S49_307 (qO S49_307 (qO S49_307 16 9) 8) : Int) := by rw [o325_]; exact q44_.2.kL (j := 8) y43_ (y43_.ref p322_ (y43_.2.1 _ finC_27).2.1) (g.row (y43_.ref p322_ (y43_.2.1 _ finC_27).2.1)).1.2.2.2.2.2.2 (by decide) (by decide)
    have t331_ : (qN S51_324 (qO S51_324 (qO S51_324 16 9) 7) : Int) = (qN S49_307 (qO S49_307 (qO S49_307 16 9) 7) : Int) := by rw [o325_]; exact q44_.2.kL (j := 7) y43_ (y43_.ref p322_ (y43_.2.1 _ finC_27).2.1) (g.row (y43_.ref p322_ (y43_.2.1 _ finC_27).2.1)).1.2.2.2.2.2.1 (by decide) (by decide)
    have t332_ : (qN S51_324 (qO S51_324 (qO S51_324 16 9) 0) : Int) = (qN S49_307 (qO S49_307 (qO S49_307 16 9) 0) : Int) := by rw [o325_]; exact q44_.2.kL (j := 0) y43_ (y43_.ref p322_ (y43_.2.1 _ finC_27).2.1) (g.row (y43_.ref p322_ (y43_.2.1 _ finC_27).2.1)).1.1 (by decide) (by decide)
    have t333_ : (qN S51_324 (qO S51_324 (qO S51_324 16 9) 6) : Int) = (qN S49_307 (qO S49_307 (qO S49_307 16 9) 6) : Int) := by rw [o325_]; exact q44_.2.kL (j := 6) y43_ (y43_.ref p322_ (y43_.2.1 _ finC_27).2.1) (g.row (y43_.ref p322_ (y43_.2.1 _ finC_27).2.1)).1.2.2.2.2.1 (by decide) (by decide)
    have t334_ : (qN S51_324 (qO S51_324 (qO S51_324 16 9) 3) : Int) = (qN S49_307 (qO S49_307 (qO S49_307 16 9) 3) : Int) := by rw [o325_]; exact q44_.2.kL (j := 3) y43_ (y43_.ref p322_ (y43_.2.1 _ finC_27).2.1) (g.row (y43_.ref p322_ (y43_.2.1 _ finC_27).2.1)).1.2.2.1 (by decide) (by decide)
    have t335_ : (qN S51_324 (qO S51_324 (qO S51_324 16 9) 5) : Int) = (qN S49_307 (qO S49_307 (qO S49_307 16 9) 5) : Int) := by rw [o325_]; exact q44_.2.kL (j := 5) y43_ (y43_.ref p322_ (y43_.2.1 _ finC_27).2.1) (g.row (y43_.ref p322_ (y43_.2.1 _ finC_27).2.1)).1.2.2.2.1 (by decide) (by decide)
    have t336_ : (qN S51_324 (qO S51_324 16 2) : Int) = (qN S49_307 (qO S49_307 16 2) : Int) := q44_.2.kL (j := 2) y43_ (y43_.2.1 _ finC_27).2.1 (y43_.ptr ptrC_5) (by decide) (by decide)
    have p337_ : qR S51_324 16 8 = some (qO S51_324 16 8) := q44_.2.kP (y43_.2.1 _ finC_27).2.1 p321_ (by decide) (by decide)
    have p338_ : qR S51_324 16 9 = some (qO S51_324 16 9) := q44_.2.kP (y43_.2.1 _ finC_27).2.1 p322_ (by decide) (by decide)
    have g : ShC B S51_324 := ShC.ca y43_ g q44_.2 y46_ y45_ rfl rfl
    refine ⟨(2147483648 - (0 : Int32).toInt).toNat + 1, ?_⟩
    refine sg_X1_flowFrom_L30  _ g p337_ p338_ ?_ ?_ ?_ ?_ ?_
    · have s339_ := (g.row (y45_.ref p338_ (y45_.2.1 _ finC_27).2.1)).2
      have s340_ := y45_.len9 (y45_.ref (y45_.ptr ptrC_5) (y45_.2.1 _ finC_27).2.1) (by decide)
      have s341_ := g.chk
      unfold ChKk at s341_
      have n1_ := li_0k
      have n2_ := rgI (qI S (qO S 16 9) 2)
      have n3_ := rgI x1
      have n4_ := rgI r4_181
      have n5_ := rgI (qI S49_307 16 5)
      have n6_ := li_1k
      omega
    · have s342_ := (g.row (y45_.ref p338_ (y45_.2.1 _ finC_27).2.1)).2
      have s343_ := y45_.len9 (y45_.ref (y45_.ptr ptrC_5) (y45_.2.1 _ finC_27).2.1) (by decide)
      have s344_ := g.chk
      unfold ChKk at s344_
      have n1_ := rgI (qI S51_324 (qO S51_324 16 9) 2)
      have n2_ := rgI (qI S (qO S 16 9) 2)
      have n3_ := rgI x1
      have n4_ := rgI r4_181
      have n5_ := rgI (qI S49_307 16 5)
      have n6_ := li_1k
      omega
    · have s345_ := (g.row (y45_.ref p338_ (y45_.2.1 _ finC_27).2.1)).2
      have s346_ := y45_.len9 (y45_.ref (y45_.ptr ptrC_5) (y45_.2.1 _ finC_27).2.1) (by decide)
      have s347_ := g.chk
      unfold ChKk at s347_
      have n1_ := rgI x1
      have n2_ := rgI (qI S (qO S 16 9) 2)
      have n3_ := rgI r4_181
      have n4_ := rgI (qI S49_307 16 5)
      have n5_ := li_1k
      omega
    · have s348_ := (g.row (y45_.ref p338_ (y45_.2.1 _ finC_27).2.1)).2
      have s349_ := y45_.len9 (y45_.ref (y45_.ptr ptrC_5) (y45_.2.1 _ finC_27).2.1) (by decide)
      have s350_ := g.chk
      unfold ChKk at s350_
      have n1_ := rgI x1
      have n2_ := rgI (qI S (qO S 16 9) 2)
      have n3_ := rgI r4_181
      have n4_ := rgI (qI S49_307 16 5)
      have n5_ := li_1k
      omega
    · have s351_ := (g.row (y45_.ref p338_ (y45_.2.1 _ finC_27).2.1)).2
      have s352_ := y45_.len9 (y45_.ref (y45_.ptr ptrC_5) (y45_.2.1 _ finC_27).2.1) (by decide)
      have s353_ := g.chk
      unfold ChKk at s353_
      have n1_ := li_0k
      have n2_ := rgI (qI S (qO S 16 9) 2)
      have n3_ := rgI x1
      have n4_ := rgI r4_181
      have n5_ := rgI (qI S49_307 16 5)
      have n6_ := li_1k
      omega
set_option maxRecDepth 100000 in
theorem sgX1_hasBadTypes {B : Nat × Nat} {S : MS} {x1 : Int32} (hw : wfC S) (g : ShC B S) (qp0_ : qR S 16 8 = some (qO S 16 8)) (qp1_ : qR S 16 9 = some (qO S 16 9)) (a0_ : 0 ≤ x1.toInt) (a1_ : x1.toInt < (qN S (qO S 16 2) : Int)) : wX1_hasBadTypes S x1 (fun _ u => ShC B u ∧ (True)) := by
  unfold wX1_hasBadTypes
  refine ⟨?_, ?_⟩
  · have s0_ := hw.len9 (hw.ref (hw.ptr ptrC_5) (hw.2.1 _ finC_27).2.1) (by decide)
    have s1_ := g.chk
    unfold ChKk at s1_
    have n1_ := rgI x1
    omega
  refine ⟨fun c2_ => ?_, fun c2_ => ?_⟩
  · exact ⟨g, trivial⟩
  · refine ⟨_, frX1_takeUp hw (sgX1_takeUp hw g (by have s4_ := hw.len9 (hw.ref (hw.ptr ptrC_5) (hw.2.1 _ finC_27).2.1) (by decide); have s5_ := g.chk; unfold ChKk at s5_; have n1_ := rgI x1; have n2_ := rgI (qI S (qO S 16 2) x1.toInt.toNat); omega) (by have s6_ := hw.len9 (hw.ref (hw.ptr ptrC_5) (hw.2.1 _ finC_27).2.1) (by decide); have s7_ := g.chk; unfold ChKk at s7_; have n1_ := rgI x1; have n2_ := rgI (qI S (qO S 16 2) x1.toInt.toNat); omega)), ?_⟩
    intro S7_3 q1_ y2_ y3_
    have t8_ : (qI S7_3 16 6).toInt = (qI S 16 6).toInt := congrArg Int32.toInt (q1_.2.kI (j := 6) (hw.2.1 _ finC_27).2.1 (by decide) (by decide))
    have t9_ : (qN S7_3 (qO S7_3 16 2) : Int) = (qN S (qO S 16 2) : Int) := q1_.2.kL (j := 2) hw (hw.2.1 _ finC_27).2.1 (hw.ptr ptrC_5) (by decide) (by decide)
    have p10_ : qR S7_3 16 8 = some (qO S7_3 16 8) := q1_.2.kP (hw.2.1 _ finC_27).2.1 qp0_ (by decide) (by decide)
    have p11_ : qR S7_3 16 9 = some (qO S7_3 16 9) := q1_.2.kP (hw.2.1 _ finC_27).2.1 qp1_ (by decide) (by decide)
    have g : ShC B S7_3 := q1_.1.1
    intro S9_12 eS9_12 y4_ y5_
    have f13_ : cfr [] [(41, 6)] S7_3 S9_12 := by rw [eS9_12]; exact cfr.oI y4_ (by decide)
    have t14_ : (qN S9_12 (qO S9_12 16 2) : Int) = (qN S7_3 (qO S7_3 16 2) : Int) := f13_.kL (j := 2) y2_ (y2_.2.1 _ finC_27).2.1 (y2_.ptr ptrC_5) (by decide) (by decide)
    have p15_ : qR S9_12 16 8 = some (qO S9_12 16 8) := f13_.kP (y2_.2.1 _ finC_27).2.1 p10_ (by decide) (by decide)
    have p16_ : qR S9_12 16 9 = some (qO S9_12 16 9) := f13_.kP (y2_.2.1 _ finC_27).2.1 p11_ (by decide) (by decide)
    have t17_ : (qI S9_12 16 6).toInt = (0 : Int32).toInt := by rw [eS9_12, qI_wI, if_pos ⟨rfl, rfl⟩]
    have g : ShC B S9_12 := ShC.ws y2_ g f13_ (by rw [eS9_12]; rfl) (by rw [eS9_12]; rfl) (by rw [eS9_12]; rfl) rfl rfl
    refine ⟨_, frX1_goThrough y5_ (sgX1_goThrough y5_ g p15_ p16_), ?_⟩
    intro S11_18 q6_ y7_ y8_
    have t19_ : (qN S11_18 (qO S11_18 16 2) : Int) = (qN S9_12 (qO S9_12 16 2) : Int) := q6_.2.kL (j := 2) y5_ (y5_.2.1 _ finC_27).2.1 (y5_.ptr ptrC_5) (by decide) (by decide)
    have p20_ : qR S11_18 16 8 = some (qO S11_18 16 8) := q6_.2.kP (y5_.2.1 _ finC_27).2.1 p15_ (by decide) (by decide)
    have p21_ : qR S11_18 16 9 = some (qO S11_18 16 9) := q6_.2.kP (y5_.2.1 _ finC_27).2.1 p16_ (by decide) (by decide)
    have g : ShC B S11_18 := q6_.1.1
    exact ⟨g, trivial⟩
