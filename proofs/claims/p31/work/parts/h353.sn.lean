set_option maxRecDepth 100000 in
theorem sg_X9_dropUnreached_L19 {B : Nat × Nat} : ∀ (n : Nat) {U19 : MS} {v19_1 : Int32} {v19_2 : Int32} {v19_3 : Int32} {v19_4 : Int32}, ShC B U19 → 0 ≤ v19_4.toInt → 0 ≤ v19_2.toInt → v19_2.toInt ≤ v19_4.toInt → v19_3.toInt ≤ (qN U19 (qO U19 66 3) : Int) → v19_3.toInt ≤ 1296 → 2147483648 - v19_4.toInt < n → w_X9_dropUnreached_L19 (fun _ u => ShC B u ∧ (True)) n U19 v19_1 v19_2 v19_3 v19_4 := by
  intro n
  induction n with
  | zero => intro U19 v19_1 v19_2 v19_3 v19_4 g j0_ j1_ j2_ j3_ j4_ hm_; exfalso; have := rgI v19_1; have := rgI v19_2; have := rgI v19_3; have := rgI v19_4; omega
  | succ n ih19 =>
    intro U19 v19_1 v19_2 v19_3 v19_4 g j0_ j1_ j2_ j3_ j4_ hm_
    unfold w_X9_dropUnreached_L19
    intro y1_ y2_
    refine ⟨fun c0_ => ?_, fun c0_ => ?_⟩
    · exact ⟨g, trivial⟩
    · refine ⟨?_, ?_⟩
      · have s1_ := (g.row (y1_.ref (y1_.ptr ptrC_39) (y1_.2.1 _ finC_31).2.1)).2
        have s2_ := y1_.len9 (y1_.ref (y1_.ptr ptrC_36) (y1_.2.1 _ finC_31).2.1) (by decide)
        have s3_ := g.smk
        unfold SmK at s3_
        have n1_ := rgI v19_4
        have n2_ := rgI v19_2
        have n3_ := rgI v19_3
        omega
      refine ⟨fun c4_ => ?_, fun c4_ => ?_⟩
      · intro y3_
        refine ⟨_, frX8_remove y1_ (sgX8_remove y1_ g (y1_.ref (y1_.ptr ptrC_39) (y1_.2.1 _ finC_31).2.1) (by have s6_ := (g.row (y1_.ref (y1_.ptr ptrC_39) (y1_.2.1 _ finC_31).2.1)).2; have s7_ := y1_.len9 (y1_.ref (y1_.ptr ptrC_36) (y1_.2.1 _ finC_31).2.1) (by decide); have s8_ := g.smk; unfold SmK at s8_; have n1_ := li_1k; have n2_ := rgI v19_4; have n3_ := rgI v19_2; have n4_ := rgI v19_3; have n5_ := rgI (qI U19 (qO U19 66 3) v19_4.toInt.toNat); omega) (by have s9_ := (g.row (y1_.ref (y1_.ptr ptrC_39) (y1_.2.1 _ finC_31).2.1)).2; have s10_ := y1_.len9 (y1_.ref (y1_.ptr ptrC_36) (y1_.2.1 _ finC_31).2.1) (by decide); have s11_ := g.smk; unfold SmK at s11_; have n1_ := rgI v19_2; have n2_ := rgI v19_4; have n3_ := rgI v19_3; have n4_ := rgI (qI U19 (qO U19 66 3) v19_4.toInt.toNat); omega)), ?_⟩
        intro S15_5 q4_ y5_ y6_
        have o12_ : qO S15_5 66 0 = qO U19 66 0 := qO_eq (q4_.2.kO (y1_.2.1 _ finC_31).2.1 (by decide) (by decide))
        have t13_ : (qI S15_5 (qO S15_5 66 0) 4).toInt = (qI U19 (qO U19 66 0) 4).toInt := by rw [o12_]; exact congrArg Int32.toInt (q4_.2.kI (j := 4) (y1_.ref (y1_.ptr ptrC_39) (y1_.2.1 _ finC_31).2.1) (by decide) (by decide))
        have t14_ : (qN S15_5 (qO S15_5 (qO S15_5 66 0) 1) : Int) = (qN U19 (qO U19 (qO U19 66 0) 1) : Int) := by rw [o12_]; exact q4_.2.kL (j := 1) y1_ (y1_.ref (y1_.ptr ptrC_39) (y1_.2.1 _ finC_31).2.1) (g.row (y1_.ref (y1_.ptr ptrC_39) (y1_.2.1 _ finC_31).2.1)).1.2.1 (by decide) (by decide)
        have t15_ : (qN S15_5 (qO S15_5 (qO S15_5 66 0) 8) : Int) = (qN U19 (qO U19 (qO U19 66 0) 8) : Int) := by rw [o12_]; exact q4_.2.kL (j := 8) y1_ (y1_.ref (y1_.ptr ptrC_39) (y1_.2.1 _ finC_31).2.1) (g.row (y1_.ref (y1_.ptr ptrC_39) (y1_.2.1 _ finC_31).2.1)).1.2.2.2.2.2.2 (by decide) (by decide)
        have t16_ : (qN S15_5 (qO S15_5 (qO S15_5 66 0) 7) : Int) = (qN U19 (qO U19 (qO U19 66 0) 7) : Int) := by rw [o12_]; exact q4_.2.kL (j := 7) y1_ (y1_.ref (y1_.ptr ptrC_39) (y1_.2.1 _ finC_31).2.1) (g.row (y1_.ref (y1_.ptr ptrC_39) (y1_.2.1 _ finC_31).2.1)).1.2.2.2.2.2.1 (by decide) (by decide)
        have t17_ : (qN S15_5 (qO S15_5 (qO S15_5 66 0) 0) : Int) = (qN U19 (qO U19 (qO U19 66 0) 0) : Int) := by rw [o12_]; exact q4_.2.kL (j := 0) y1_ (y1_.ref (y1_.ptr ptrC_39) (y1_.2.1 _ finC_31).2.1) (g.row (y1_.ref (y1_.ptr ptrC_39) (y1_.2.1 _ finC_31).2.1)).1.1 (by decide) (by decide)
        have t18_ : (qN S15_5 (qO S15_5 (qO S15_5 66 0) 6) : Int) = (qN U19 (qO U19 (qO U19 66 0) 6) : Int) := by rw [o12_]; exact q4_.2.kL (j := 6) y1_ (y1_.ref (y1_.ptr ptrC_39) (y1_.2.1 _ finC_31).2.1) (g.row (y1_.ref (y1_.ptr ptrC_39) (y1_.2.1 _ finC_31).2.1)).1.2.2.2.2.1 (by decide) (by decide)
        have t19_ : (qN S15_5 (qO S15_5 (qO S15_5 66 0) 3) : Int) = (qN U19 (qO U19 (qO U19 66 0) 3) : Int) := by rw [o12_]; exact q4_.2.kL (j := 3) y1_ (y1_.ref (y1_.ptr ptrC_39) (y1_.2.1 _ finC_31).2.1) (g.row (y1_.ref (y1_.ptr ptrC_39) (y1_.2.1 _ finC_31).2.1)).1.2.2.1 (by decide) (by decide)
        have t20_ : (qN S15_5 (qO S15_5 (qO S15_5 66 0) 5) : Int) = (qN U19 (qO U19 (qO U19 66 0) 5) : Int) := by rw [o12_]; exact q4_.2.kL (j := 5) y1_ (y1_.ref (y1_.ptr ptrC_39) (y1_.2.1 _ finC_31).2.1) (g.row (y1_.ref (y1_.ptr ptrC_39) (y1_.2.1 _ finC_31).2.1)).1.2.2.2.1 (by decide) (by decide)
        have t21_ : (qN S15_5 (qO S15_5 66 3) : Int) = (qN U19 (qO U19 66 3) : Int) := q4_.2.kL (j := 3) y1_ (y1_.2.1 _ finC_31).2.1 (y1_.ptr ptrC_36) (by decide) (by decide)
        have g : ShC B S15_5 := q4_.1.1
        intro S19_22 eS19_22 y7_ y8_
        have f23_ : cfr [228] [] S15_5 S19_22 := by rw [eS19_22]; exact cfr.aI y7_ (by decide)
        have o24_ : qO S19_22 66 0 = qO S15_5 66 0 := qO_eq (f23_.kO (y5_.2.1 _ finC_31).2.1 (by decide) (by decide))
        have t25_ : (qI S19_22 (qO S19_22 66 0) 2).toInt = (qI S15_5 (qO S15_5 66 0) 2).toInt := by rw [o24_]; exact congrArg Int32.toInt (f23_.kI (j := 2) (y5_.ref (y5_.ptr ptrC_39) (y5_.2.1 _ finC_31).2.1) (by decide) (by decide))
        have t26_ : (qI S19_22 (qO S19_22 66 0) 9).toInt = (qI S15_5 (qO S15_5 66 0) 9).toInt := by rw [o24_]; exact congrArg Int32.toInt (f23_.kI (j := 9) (y5_.ref (y5_.ptr ptrC_39) (y5_.2.1 _ finC_31).2.1) (by decide) (by decide))
        have t27_ : (qI S19_22 (qO S19_22 66 0) 4).toInt = (qI S15_5 (qO S15_5 66 0) 4).toInt := by rw [o24_]; exact congrArg Int32.toInt (f23_.kI (j := 4) (y5_.ref (y5_.ptr ptrC_39) (y5_.2.1 _ finC_31).2.1) (by decide) (by decide))
        have t28_ : (qN S19_22 (qO S19_22 (qO S19_22 66 0) 1) : Int) = (qN S15_5 (qO S15_5 (qO S15_5 66 0) 1) : Int) := by rw [o24_]; exact f23_.kL (j := 1) y5_ (y5_.ref (y5_.ptr ptrC_39) (y5_.2.1 _ finC_31).2.1) (g.row (y5_.ref (y5_.ptr ptrC_39) (y5_.2.1 _ finC_31).2.1)).1.2.1 (by decide) (by decide)
        have t29_ : (qN S19_22 (qO S19_22 (qO S19_22 66 0) 8) : Int) = (qN S15_5 (qO S15_5 (qO S15_5 66 0) 8) : Int) := by rw [o24_]; exact f23_.kL (j := 8) y5_ (y5_.ref (y5_.ptr ptrC_39) (y5_.2.1 _ finC_31).2.1) (g.row (y5_.ref (y5_.ptr ptrC_39) (y5_.2.1 _ finC_31).2.1)).1.2.2.2.2.2.2 (by decide) (by decide)
        have t30_ : (qN S19_22 (qO S19_22 (qO S19_22 66 0) 7) : Int) = (qN S15_5 (qO S15_5 (qO S15_5 66 0) 7) : Int) := by rw [o24_]; exact f23_.kL (j := 7) y5_ (y5_.ref (y5_.ptr ptrC_39) (y5_.2.1 _ finC_31).2.1) (g.row (y5_.ref (y5_.ptr ptrC_39) (y5_.2.1 _ finC_31).2.1)).1.2.2.2.2.2.1 (by decide) (by decide)
        have t31_ : (qN S19_22 (qO S19_22 (qO S19_22 66 0) 0) : Int) = (qN S15_5 (qO S15_5 (qO S15_5 66 0) 0) : Int) := by rw [o24_]; exact f23_.kL (j := 0) y5_ (y5_.ref (y5_.ptr ptrC_39) (y5_.2.1 _ finC_31).2.1) (g.row (y5_.ref (y5_.ptr ptrC_39) (y5_.2.1 _ finC_31).2.1)).1.1 (by decide) (by decide)
        have t32_ : (qN S19_22 (qO S19_22 (qO S19_22 66 0) 6) : Int) = (qN S15_5 (qO S15_5 (qO S15_5 66 0) 6) : Int) := by rw [o24_]; exact f23_.kL (j := 6) y5_ (y5_.ref (y5_.ptr ptrC_39) (y5_.2.1 _ finC_31).2.1) (g.row (y5_.ref (y5_.ptr ptrC_39) (y5_.2.1 _ finC_31).2.1)).1.2.2.2.2.1 (by decide) (by decide)
        have t33_ : (qN S19_22 (qO S19_22 (qO S19_22 66 0) 3) : Int) = (qN S15_5 (qO S15_5 (qO S15_5 66 0) 3) : Int) := by rw [o24_]; exact f23_.kL (j := 3) y5_ (y5_.ref (y5_.ptr ptrC_39) (y5_.2.1 _ finC_31).2.1) (g.row (y5_.ref (y5_.ptr ptrC_39) (y5_.2.1 _ finC_31).2.1)).1.2.2.1 (by decide) (by decide)
        have t34_ : (qN S19_22 (qO S19_22 (qO S19_22 66 0) 5) : Int) = (qN S15_5 (qO S15_5 (qO S15_5 66 0) 5) : Int) := by rw [o24_]; exact f23_.kL (j := 5) y5_ (y5_.ref (y5_.ptr ptrC_39) (y5_.2.1 _ finC_31).2.1) (g.row (y5_.ref (y5_.ptr ptrC_39) (y5_.2.1 _ finC_31).2.1)).1.2.2.2.1 (by decide) (by decide)
        have t35_ : (qN S19_22 (qO S19_22 66 3) : Int) = (qN S15_5 (qO S15_5 66 3) : Int) := f23_.kL (j := 3) y5_ (y5_.2.1 _ finC_31).2.1 (y5_.ptr ptrC_36) (by decide) (by decide)
        have g : ShC B S19_22 := ShC.ws y5_ g f23_ (by rw [eS19_22]; rfl) (by rw [eS19_22]; rfl) (by rw [eS19_22]; rfl) rfl rfl
        unfold w_X9_dropUnreached_J62
        intro y9_ y10_
        intro a11_36 ea11_36 
        have ga11_36 := congrArg Int32.toInt ea11_36
        refine ih19 g ?_ ?_ ?_ ?_ ?_ ?_
        · have s37_ := (g.row (y9_.ref (y9_.ptr ptrC_39) (y9_.2.1 _ finC_31).2.1)).2
          have s38_ := y9_.len9 (y9_.ref (y9_.ptr ptrC_36) (y9_.2.1 _ finC_31).2.1) (by decide)
          have s39_ := g.smk
          unfold SmK at s39_
          have n1_ := rgI a11_36
          have n2_ := rgI v19_4
          have n3_ := rgI v19_2
          have n4_ := rgI v19_3
          have n5_ := rgI (qI U19 (qO U19 66 3) v19_4.toInt.toNat)
          have n7_ := lo_1k
          have n7_ := t_addD (a := v19_4) (b := Int32.ofInt 1)
          have n8_ := rgI (v19_4 + Int32.ofInt 1)
          omega
        · have s40_ := (g.row (y9_.ref (y9_.ptr ptrC_39) (y9_.2.1 _ finC_31).2.1)).2
          have s41_ := y9_.len9 (y9_.ref (y9_.ptr ptrC_36) (y9_.2.1 _ finC_31).2.1) (by decide)
          have s42_ := g.smk
          unfold SmK at s42_
          have n1_ := rgI v19_2
          have n2_ := rgI v19_4
          have n3_ := rgI v19_3
          have n4_ := rgI (qI U19 (qO U19 66 3) v19_4.toInt.toNat)
          have n5_ := rgI a11_36
          have n7_ := lo_1k
          have n7_ := t_addD (a := v19_4) (b := Int32.ofInt 1)
          have n8_ := rgI (v19_4 + Int32.ofInt 1)
          omega
        · have s43_ := (g.row (y9_.ref (y9_.ptr ptrC_39) (y9_.2.1 _ finC_31).2.1)).2
          have s44_ := y9_.len9 (y9_.ref (y9_.ptr ptrC_36) (y9_.2.1 _ finC_31).2.1) (by decide)
          have s45_ := g.smk
          unfold SmK at s45_
          have n1_ := rgI v19_2
          have n2_ := rgI a11_36
          have n3_ := rgI v19_4
          have n4_ := rgI v19_3
          have n5_ := rgI (qI U19 (qO U19 66 3) v19_4.toInt.toNat)
          have n7_ := lo_1k
          have n7_ := t_addD (a := v19_4) (b := Int32.ofInt 1)
          have n8_ := rgI (v19_4 + Int32.ofInt 1)
          omega
        · have s46_ := (g.row (y9_.ref (y9_.ptr ptrC_39) (y9_.2.1 _ finC_31).2.1)).2
          have s47_ := y9_.len9 (y9_.ref (y9_.ptr ptrC_36) (y9_.2.1 _ finC_31).2.1) (by decide)
          have s48_ := g.smk
          unfold SmK at s48_
          have n1_ := rgI v19_3
          have n2_ := rgI v19_4
          have n3_ := rgI v19_2
          have n4_ := rgI (qI U19 (qO U19 66 3) v19_4.toInt.toNat)
          have n5_ := rgI a11_36
          have n7_ := lo_1k
          have n7_ := t_addD (a := v19_4) (b := Int32.ofInt 1)
          have n8_ := rgI (v19_4 + Int32.ofInt 1)
          omega
        · have s49_ := (g.row (y9_.ref (y9_.ptr ptrC_39) (y9_.2.1 _ finC_31).2.1)).2
          have s50_ := y9_.len9 (y9_.ref (y9_.ptr ptrC_36) (y9_.2.1 _ finC_31).2.1) (by decide)
          have s51_ := g.smk
          unfold SmK at s51_
          have n1_ := rgI v19_3
          have n2_ := rgI v19_4
          have n3_ := rgI v19_2
          have n4_ := rgI (qI U19 (qO U19 66 3) v19_4.toInt.toNat)
          have n5_ := rgI a11_36
          have n7_ := lo_1k
          have n7_ := t_addD (a := v19_4) (b := Int32.ofInt 1)
          have n8_ := rgI (v19_4 + Int32.ofInt 1)
          omega
        · have s52_ := (g.row (y9_.ref (y9_.ptr ptrC_39) (y9_.2.1 _ finC_31).2.1)).2
          have s53_ := y9_.len9 (y9_.ref (y9_.ptr ptrC_36) (y9_.2.1 _ finC_31).2.1) (by decide)
          have s54_ := g.smk
          unfold SmK at s54_
          have n1_ := rgI a11_36
          have n2_ := rgI v19_4
          have n3_ := rgI v19_2
          have n4_ := rgI v19_3
          have n5_ := rgI (qI U19 (qO U19 66 3) v19_4.toInt.toNat)
          have n7_ := lo_1k
          have n7_ := t_addD (a := v19_4) (b := Int32.ofInt 1)
          have n8_ := rgI (v19_4 + Int32.ofInt 1)
          omega
      · intro a20_55 ea20_55 
        have ga20_55 := congrArg Int32.toInt ea20_55
        unfold w_X9_dropUnreached_J62
        intro y11_ y12_
        intro a11_56 ea11_56 
        have ga11_56 := congrArg Int32.toInt ea11_56
        refine ih19 g ?_ ?_ ?_ ?_ ?_ ?_
        · have s57_ := (g.row (y11_.ref (y11_.ptr ptrC_39) (y11_.2.1 _ finC_31).2.1)).2
          have s58_ := y11_.len9 (y11_.ref (y11_.ptr ptrC_36) (y11_.2.1 _ finC_31).2.1) (by decide)
          have s59_ := g.smk
          unfold SmK at s59_
          have n1_ := rgI a11_56
          have n2_ := rgI v19_4
          have n3_ := rgI v19_2
          have n4_ := rgI v19_3
          have n5_ := rgI (qI U19 (qO U19 66 3) v19_4.toInt.toNat)
          have n6_ := rgI a20_55
          have n8_ := lo_1k
          have n8_ := t_addD (a := v19_2) (b := Int32.ofInt 1)
          have n9_ := rgI (v19_2 + Int32.ofInt 1)
          have n10_ := t_addD (a := v19_4) (b := Int32.ofInt 1)
          have n11_ := rgI (v19_4 + Int32.ofInt 1)
          omega
        · have s60_ := (g.row (y11_.ref (y11_.ptr ptrC_39) (y11_.2.1 _ finC_31).2.1)).2
          have s61_ := y11_.len9 (y11_.ref (y11_.ptr ptrC_36) (y11_.2.1 _ finC_31).2.1) (by decide)
          have s62_ := g.smk
          unfold SmK at s62_
          have n1_ := rgI a20_55
          have n2_ := rgI v19_4
          have n3_ := rgI v19_2
          have n4_ := rgI v19_3
          have n5_ := rgI (qI U19 (qO U19 66 3) v19_4.toInt.toNat)
          have n7_ := lo_1k
          have n7_ := t_addD (a := v19_2) (b := Int32.ofInt 1)
          have n8_ := rgI (v19_2 + Int32.ofInt 1)
          have n9_ := rgI a11_56
          have n10_ := t_addD (a := v19_4) (b := Int32.ofInt 1)
          have n11_ := rgI (v19_4 + Int32.ofInt 1)
          omega
        · have s63_ := (g.row (y11_.ref (y11_.ptr ptrC_39) (y11_.2.1 _ finC_31).2.1)).2
          have s64_ := y11_.len9 (y11_.ref (y11_.ptr ptrC_36) (y11_.2.1 _ finC_31).2.1) (by decide)
          have s65_ := g.smk
          unfold SmK at s65_
          have n1_ := rgI a20_55
          have n2_ := rgI a11_56
          have n3_ := rgI v19_4
          have n4_ := rgI v19_2
          have n5_ := rgI v19_3
          have n6_ := rgI (qI U19 (qO U19 66 3) v19_4.toInt.toNat)
          have n8_ := lo_1k
          have n8_ := t_addD (a := v19_2) (b := Int32.ofInt 1)
          have n9_ := rgI (v19_2 + Int32.ofInt 1)
          have n10_ := t_addD (a := v19_4) (b := Int32.ofInt 1)
          have n11_ := rgI (v19_4 + Int32.ofInt 1)
          omega
        · have s66_ := (g.row (y11_.ref (y11_.ptr ptrC_39) (y11_.2.1 _ finC_31).2.1)).2
          have s67_ := y11_.len9 (y11_.ref (y11_.ptr ptrC_36) (y11_.2.1 _ finC_31).2.1) (by decide)
          have s68_ := g.smk
          unfold SmK at s68_
          have n1_ := rgI v19_3
          have n2_ := rgI v19_4
          have n3_ := rgI v19_2
          have n4_ := rgI (qI U19 (qO U19 66 3) v19_4.toInt.toNat)
          have n5_ := rgI a20_55
          have n7_ := lo_1k
          have n7_ := t_addD (a := v19_2) (b := Int32.ofInt 1)
          have n8_ := rgI (v19_2 + Int32.ofInt 1)
          have n9_ := rgI a11_56
          have n10_ := t_addD (a := v19_4) (b := Int32.ofInt 1)
          have n11_ := rgI (v19_4 + Int32.ofInt 1)
          omega
        · have s69_ := (g.row (y11_.ref (y11_.ptr ptrC_39) (y11_.2.1 _ finC_31).2.1)).2
          have s70_ := y11_.len9 (y11_.ref (y11_.ptr ptrC_36) (y11_.2.1 _ finC_31).2.1) (by decide)
          have s71_ := g.smk
          unfold SmK at s71_
          have n1_ := rgI v19_3
          have n2_ := rgI v19_4
          have n3_ := rgI v19_2
          have n4_ := rgI (qI U19 (qO U19 66 3) v19_4.toInt.toNat)
          have n5_ := rgI a20_55
          have n7_ := lo_1k
          have n7_ := t_addD (a := v19_2) (b := Int32.ofInt 1)
          have n8_ := rgI (v19_2 + Int32.ofInt 1)
          have n9_ := rgI a11_56
          have n10_ := t_addD (a := v19_4) (b := Int32.ofInt 1)
          have n11_ := rgI (v19_4 + Int32.ofInt 1)
          omega
        · have s72_ := (g.row (y11_.ref (y11_.ptr ptrC_39) (y11_.2.1 _ finC_31).2.1)).2
          have s73_ := y11_.len9 (y11_.ref (y11_.ptr ptrC_36) (y11_.2.1 _ finC_31).2.1) (by decide)
          have s74_ := g.smk
          unfold SmK at s74_
          have n1_ := rgI a11_56
          have n2_ := rgI v19_4
          have n3_ := rgI v19_2
          have n4_ := rgI v19_3
          have n5_ := rgI (qI U19 (qO U19 66 3) v19_4.toInt.toNat)
          have n6_ := rgI a20_55
          have n8_ := lo_1k
          have n8_ := t_addD (a := v19_2) (b := Int32.ofInt 1)
          have n9_ := rgI (v19_2 + Int32.ofInt 1)
          have n10_ := t_addD (a := v19_4) (b := Int32.ofInt 1)
          have n11_ := rgI (v19_4 + Int32.ofInt 1)
          omega
set_option maxRecDepth 100000 in
theorem sgX9_dropUnreached {B : Nat × Nat} {S : MS} (hw : wfC S) (g : ShC B S) : wX9_dropUnreached S (fun _ u => ShC B u ∧ (True)) := by
  unfold wX9_dropUnreached
  refine ⟨_, frX9_findReached hw (sgX9_findReached hw g), ?_⟩
  intro S2_75 q13_ y14_ y15_
  have o76_ : qO S2_75 66 0 = qO S 66 0 := qO_eq (q13_.2.kO (hw.2.1 _ finC_31).2.1 (by decide) (by decide))
  have t77_ : (qI S2_75 (qO S2_75 66 0) 2).toInt = (qI S (qO S 66 0) 2).toInt := by rw [o76_]; exact congrArg Int32.toInt (q13_.2.kI (j := 2) (hw.ref (hw.ptr ptrC_39) (hw.2.1 _ finC_31).2.1) (by decide) (by decide))
  have t78_ : (qI S2_75 (qO S2_75 66 0) 9).toInt = (qI S (qO S 66 0) 9).toInt := by rw [o76_]; exact congrArg Int32.toInt (q13_.2.kI (j := 9) (hw.ref (hw.ptr ptrC_39) (hw.2.1 _ finC_31).2.1) (by decide) (by decide))
  have t79_ : (qI S2_75 (qO S2_75 66 0) 4).toInt = (qI S (qO S 66 0) 4).toInt := by rw [o76_]; exact congrArg Int32.toInt (q13_.2.kI (j := 4) (hw.ref (hw.ptr ptrC_39) (hw.2.1 _ finC_31).2.1) (by decide) (by decide))
  have t80_ : (qN S2_75 (qO S2_75 (qO S2_75 66 0) 1) : Int) = (qN S (qO S (qO S 66 0) 1) : Int) := by rw [o76_]; exact q13_.2.kL (j := 1) hw (hw.ref (hw.ptr ptrC_39) (hw.2.1 _ finC_31).2.1) (g.row (hw.ref (hw.ptr ptrC_39) (hw.2.1 _ finC_31).2.1)).1.2.1 (by decide) (by decide)
  have t81_ : (qN S2_75 (qO S2_75 (qO S2_75 66 0) 8) : Int) = (qN S (qO S (qO S 66 0) 8) : Int) := by rw [o76_]; exact q13_.2.kL (j := 8) hw (hw.ref (hw.ptr ptrC_39) (hw.2.1 _ finC_31).2.1) (g.row (hw.ref (hw.ptr ptrC_39) (hw.2.1 _ finC_31).2.1)).1.2.2.2.2.2.2 (by decide) (by decide)
  have t82_ : (qN S2_75 (qO S2_75 (qO S2_75 66 0) 7) : Int) = (qN S (qO S (qO S 66 0) 7) : Int) := by rw [o76_]; exact q13_.2.kL (j := 7) hw (hw.ref (hw.ptr ptrC_39) (hw.2.1 _ finC_31).2.1) (g.row (hw.ref (hw.ptr ptrC_39) (hw.2.1 _ finC_31).2.1)).1.2.2.2.2.2.1 (by decide) (by decide)
  have t83_ : (qN S2_75 (qO S2_75 (qO S2_75 66 0) 0) : Int) = (qN S (qO S (qO S 66 0) 0) : Int) := by rw [o76_]; exact q13_.2.kL (j := 0) hw (hw.ref (hw.ptr ptrC_39) (hw.2.1 _ finC_31).2.1) (g.row (hw.ref (hw.ptr ptrC_39) (hw.2.1 _ finC_31).2.1)).1.1 (by decide) (by decide)
  have t84_ : (qN S2_75 (qO S2_75 (qO S2_75 66 0) 6) : Int) = (qN S (qO S (qO S 66 0) 6) : Int) := by rw [o76_]; exact q13_.2.kL (j := 6) hw (hw.ref (hw.ptr ptrC_39) (hw.2.1 _ finC_31).2.1) (g.row (hw.ref (hw.ptr ptrC_39) (hw.2.1 _ finC_31).2.1)).1.2.2.2.2.1 (by decide) (by decide)
  have t85_ : (qN S2_75 (qO S2_75 (qO S2_75 66 0) 3) : Int) = (qN S (qO S (qO S 66 0) 3) : Int) := by rw [o76_]; exact q13_.2.kL (j := 3) hw (hw.ref (hw.ptr ptrC_39) (hw.2.1 _ finC_31).2.1) (g.row (hw.ref (hw.ptr ptrC_39) (hw.2.1 _ finC_31).2.1)).1.2.2.1 (by decide) (by decide)
  have t86_ : (qN S2_75 (qO S2_75 (qO S2_75 66 0) 5) : Int) = (qN S (qO S (qO S 66 0) 5) : Int) := by rw [o76_]; exact q13_.2.kL (j := 5) hw (hw.ref (hw.ptr ptrC_39) (hw.2.1 _ finC_31).2.1) (g.row (hw.ref (hw.ptr ptrC_39) (hw.2.1 _ finC_31).2.1)).1.2.2.2.1 (by decide) (by decide)
  have t87_ : (qN S2_75 (qO S2_75 66 3) : Int) = (qN S (qO S 66 3) : Int) := q13_.2.kL (j := 3) hw (hw.2.1 _ finC_31).2.1 (hw.ptr ptrC_36) (by decide) (by decide)
  have g : ShC B S2_75 := q13_.1.1
  intro a5_88 ea5_88 
  have ga5_88 := congrArg Int32.toInt ea5_88
  refine ⟨(2147483648 - (0 : Int32).toInt).toNat + 1, ?_⟩
  refine sg_X9_dropUnreached_L19  _ g ?_ ?_ ?_ ?_ ?_ ?_
  · have s89_ := (g.row (y14_.ref (y14_.ptr ptrC_39) (y14_.2.1 _ finC_31).2.1)).2
    have s90_ := y14_.len9 (y14_.ref (y14_.ptr ptrC_36) (y14_.2.1 _ finC_31).2.1) (by decide)
    have s91_ := g.smk
    unfold SmK at s91_
    have n1_ := li_0k
    have n2_ := rgI a5_88
    have n3_ := rgI (qI S2_75 (qO S2_75 66 0) 2)
    omega
  · have s92_ := (g.row (y14_.ref (y14_.ptr ptrC_39) (y14_.2.1 _ finC_31).2.1)).2
    have s93_ := y14_.len9 (y14_.ref (y14_.ptr ptrC_36) (y14_.2.1 _ finC_31).2.1) (by decide)
    have s94_ := g.smk
    unfold SmK at s94_
    have n1_ := li_0k
    have n2_ := rgI a5_88
    have n3_ := rgI (qI S2_75 (qO S2_75 66 0) 2)
    omega
  · have s95_ := (g.row (y14_.ref (y14_.ptr ptrC_39) (y14_.2.1 _ finC_31).2.1)).2
    have s96_ := y14_.len9 (y14_.ref (y14_.ptr ptrC_36) (y14_.2.1 _ finC_31).2.1) (by decide)
    have s97_ := g.smk
    unfold SmK at s97_
    have n1_ := li_0k
    have n2_ := rgI a5_88
    have n3_ := rgI (qI S2_75 (qO S2_75 66 0) 2)
    omega
  · have s98_ := (g.row (y14_.ref (y14_.ptr ptrC_39) (y14_.2.1 _ finC_31).2.1)).2
    have s99_ := y14_.len9 (y14_.ref (y14_.ptr ptrC_36) (y14_.2.1 _ finC_31).2.1) (by decide)
    have s100_ := g.smk
    unfold SmK at s100_
    have n1_ := rgI a5_88
    have n2_ := rgI (qI S2_75 (qO S2_75 66 0) 2)
    omega
  · have s101_ := (g.row (y14_.ref (y14_.ptr ptrC_39) (y14_.2.1 _ finC_31).2.1)).2
    have s102_ := y14_.len9 (y14_.ref (y14_.ptr ptrC_36) (y14_.2.1 _ finC_31).2.1) (by decide)
    have s103_ := g.smk
    unfold SmK at s103_
    have n1_ := rgI a5_88
    have n2_ := rgI (qI S2_75 (qO S2_75 66 0) 2)
    omega
  · have s104_ := (g.row (y14_.ref (y14_.ptr ptrC_39) (y14_.2.1 _ finC_31).2.1)).2
    have s105_ := y14_.len9 (y14_.ref (y14_.ptr ptrC_36) (y14_.2.1 _ finC_31).2.1) (by decide)
    have s106_ := g.smk
    unfold SmK at s106_
    have n1_ := li_0k
    have n2_ := rgI a5_88
    have n3_ := rgI (qI S2_75 (qO S2_75 66 0) 2)
    omega
set_option maxRecDepth 100000 in
theorem sg_X9_findLive_L34 {B : Nat × Nat} {k12 : MS → Int32 → Int32 → Prop} {N12 : Nat} (hk12 : ∀ (U12 : MS) (v12_1 : Int32) (v12_2 : Int32), ShC B U12 → 0 ≤ v12_2.toInt → 2147483648 - v12_2.toInt < N12 → k12 U12 v12_1 v12_2) : ∀ (n : Nat) {U34 : MS} {v34_1 : Int32} {v34_2 : Int32} {v34_3 : Int32}, ShC B U34 → v34_2.toInt < 2147483647 → 2147483648 - v34_2.toInt ≤ N12 → 0 ≤ v34_2.toInt → v34_3.toInt < (qI U34 (qO U34 66 0) 2).toInt → -1 ≤ v34_3.toInt → v34_3.toInt + 2147483649 < n → w_X9_findLive_L34 (fun u => ShC B u ∧ (True)) k12 n U34 v34_1 v34_2 v34_3 := by
  intro n
  induction n with
  | zero => intro U34 v34_1 v34_2 v34_3 g j0_ j1_ j2_ j3_ j4_ hm_; exfalso; have := rgI v34_1; have := rgI v34_2; have := rgI v34_3; omega
  | succ n ih34 =>
    intro U34 v34_1 v34_2 v34_3 g j0_ j1_ j2_ j3_ j4_ hm_
    unfold w_X9_findLive_L34
    intro y1_
    refine ⟨fun c0_ => ?_, fun c0_ => ?_⟩
    · intro a11_1 ea11_1 
      have ga11_1 := congrArg Int32.toInt ea11_1
      refine hk12 _ _ _ g ?_ ?_
      · have s2_ := (g.row (y1_.ref (y1_.ptr ptrC_39) (y1_.2.1 _ finC_31).2.1)).2
        have s3_ := y1_.len9 (y1_.ref (y1_.ptr ptrC_37) (y1_.2.1 _ finC_31).2.1) (by decide)
        have s4_ := g.smk
        unfold SmK at s4_
        have n1_ := rgI a11_1
        have n2_ := rgI v34_2
        have n3_ := rgI v34_3
        have n4_ := rgI (qI U34 (qO U34 66 0) 2)
        have n6_ := lo_1k
        have n6_ := t_addD (a := v34_2) (b := Int32.ofInt 1)
        have n7_ := rgI (v34_2 + Int32.ofInt 1)
        omega
      · have s5_ := (g.row (y1_.ref (y1_.ptr ptrC_39) (y1_.2.1 _ finC_31).2.1)).2
        have s6_ := y1_.len9 (y1_.ref (y1_.ptr ptrC_37) (y1_.2.1 _ finC_31).2.1) (by decide)
        have s7_ := g.smk
        unfold SmK at s7_
        have n1_ := rgI a11_1
        have n2_ := rgI v34_2
        have n3_ := rgI v34_3
        have n4_ := rgI (qI U34 (qO U34 66 0) 2)
        have n6_ := lo_1k
        have n6_ := t_addD (a := v34_2) (b := Int32.ofInt 1)
        have n7_ := rgI (v34_2 + Int32.ofInt 1)
        omega
    · refine ⟨_, frX9_liveBefore y1_ (sgX9_liveBefore y1_ g), ?_⟩
      intro r13_8 S14_8 q2_ y3_ y4_
      have o9_ : qO S14_8 66 0 = qO U34 66 0 := qO_eq (q2_.2.kO (y1_.2.1 _ finC_31).2.1 (by decide) (by decide))
      have t10_ : (qI S14_8 (qO S14_8 66 0) 2).toInt = (qI U34 (qO U34 66 0) 2).toInt := by rw [o9_]; exact congrArg Int32.toInt (q2_.2.kI (j := 2) (y1_.ref (y1_.ptr ptrC_39) (y1_.2.1 _ finC_31).2.1) (by decide) (by decide))
      have t11_ : (qI S14_8 (qO S14_8 66 0) 9).toInt = (qI U34 (qO U34 66 0) 9).toInt := by rw [o9_]; exact congrArg Int32.toInt (q2_.2.kI (j := 9) (y1_.ref (y1_.ptr ptrC_39) (y1_.2.1 _ finC_31).2.1) (by decide) (by decide))
      have t12_ : (qI S14_8 (qO S14_8 66 0) 4).toInt = (qI U34 (qO U34 66 0) 4).toInt := by rw [o9_]; exact congrArg Int32.toInt (q2_.2.kI (j := 4) (y1_.ref (y1_.ptr ptrC_39) (y1_.2.1 _ finC_31).2.1) (by decide) (by decide))
      have t13_ : (qN S14_8 (qO S14_8 (qO S14_8 66 0) 1) : Int) = (qN U34 (qO U34 (qO U34 66 0) 1) : Int) := by rw [o9_]; exact q2_.2.kL (j := 1) y1_ (y1_.ref (y1_.ptr ptrC_39) (y1_.2.1 _ finC_31).2.1) (g.row (y1_.ref (y1_.ptr ptrC_39) (y1_.2.1 _ finC_31).2.1)).1.2.1 (by decide) (by decide)
      have t14_ : (qN S14_8 (qO S14_8 (qO S14_8 66 0) 8) : Int) = (qN U34 (qO U34 (qO U34 66 0) 8) : Int) := by rw [o9_]; exact q2_.2.kL (j := 8) y1_ (y1_.ref (y1_.ptr ptrC_39) (y1_.2.1 _ finC_31).2.1) (g.row (y1_.ref (y1_.ptr ptrC_39) (y1_.2.1 _ finC_31).2.1)).1.2.2.2.2.2.2 (by decide) (by decide)
      have t15_ : (qN S14_8 (qO S14_8 (qO S14_8 66 0) 7) : Int) = (qN U34 (qO U34 (qO U34 66 0) 7) : Int) := by rw [o9_]; exact q2_.2.kL (j := 7) y1_ (y1_.ref (y1_.ptr ptrC_39) (y1_.2.1 _ finC_31).2.1) (g.row (y1_.ref (y1_.ptr ptrC_39) (y1_.2.1 _ finC_31).2.1)).1.2.2.2.2.2.1 (by decide) (by decide)
      have t16_ : (qN S14_8 (qO S14_8 (qO S14_8 66 0) 0) : Int) = (qN U34 (qO U34 (qO U34 66 0) 0) : Int) := by rw [o9_]; exact q2_.2.kL (j := 0) y1_ (y1_.ref (y1_.ptr ptrC_39) (y1_.2.1 _ finC_31).2.1) (g.row (y1_.ref (y1_.ptr ptrC_39) (y1_.2.1 _ finC_31).2.1)).1.1 (by decide) (by decide)
      have t17_ : (qN S14_8 (qO S14_8 (qO S14_8 66 0) 6) : Int) = (qN U34 (qO U34 (qO U34 66 0) 6) : Int) := by rw [o9_]; exact q2_.2.kL (j := 6) y1_ (y1_.ref (y1_.ptr ptrC_39) (y1_.2.1 _ finC_31).2.1) (g.row (y1_.ref (y1_.ptr ptrC_39) (y1_.2.1 _ finC_31).2.1)).1.2.2.2.2.1 (by decide) (by decide)
      have t18_ : (qN S14_8 (qO S14_8 (qO S14_8 66 0) 3) : Int) = (qN U34 (qO U34 (qO U34 66 0) 3) : Int) := by rw [o9_]; exact q2_.2.kL (j := 3) y1_ (y1_.ref (y1_.ptr ptrC_39) (y1_.2.1 _ finC_31).2.1) (g.row (y1_.ref (y1_.ptr ptrC_39) (y1_.2.1 _ finC_31).2.1)).1.2.2.1 (by decide) (by decide)
      have t19_ : (qN S14_8 (qO S14_8 (qO S14_8 66 0) 5) : Int) = (qN U34 (qO U34 (qO U34 66 0) 5) : Int) := by rw [o9_]; exact q2_.2.kL (j := 5) y1_ (y1_.ref (y1_.ptr ptrC_39) (y1_.2.1 _ finC_31).2.1) (g.row (y1_.ref (y1_.ptr ptrC_39) (y1_.2.1 _ finC_31).2.1)).1.2.2.2.1 (by decide) (by decide)
      have t20_ : (qN S14_8 (qO S14_8 66 4) : Int) = (qN U34 (qO U34 66 4) : Int) := q2_.2.kL (j := 4) y1_ (y1_.2.1 _ finC_31).2.1 (y1_.ptr ptrC_37) (by decide) (by decide)
      have g : ShC B S14_8 := q2_.1.1
      refine ⟨?_, ?_⟩
      · have s21_ := (g.row (y3_.ref (y3_.ptr ptrC_39) (y3_.2.1 _ finC_31).2.1)).2
        have s22_ := y3_.len9 (y3_.ref (y3_.ptr ptrC_37) (y3_.2.1 _ finC_31).2.1) (by decide)
        have s23_ := g.smk
        unfold SmK at s23_
        have n1_ := rgI v34_3
        have n2_ := rgI v34_2
        have n3_ := rgI (qI U34 (qO U34 66 0) 2)
        omega
      refine ⟨fun c24_ => ?_, fun c24_ => ?_⟩
      · unfold w_X9_findLive_J62
        intro y5_ y6_
        intro a20_25 ea20_25 
        have ga20_25 := congrArg Int32.toInt ea20_25
        refine ⟨?_, ?_⟩
        · have s26_ := (g.row (y5_.ref (y5_.ptr ptrC_39) (y5_.2.1 _ finC_31).2.1)).2
          have s27_ := y5_.len9 (y5_.ref (y5_.ptr ptrC_37) (y5_.2.1 _ finC_31).2.1) (by decide)
          have s28_ := g.smk
          unfold SmK at s28_
          have n1_ := rgI v34_3
          have n2_ := rgI v34_2
          have n3_ := rgI (qI U34 (qO U34 66 0) 2)
          have n4_ := rgI r13_8
          have n5_ := rgI (qI S14_8 (qO S14_8 66 4) v34_3.toInt.toNat)
          have n6_ := rgI a20_25
          have n7_ := rgI (v34_1 ||| (0 : Int32))
          omega
        intro S23_29 eS23_29 y7_ y8_
        have f30_ : cfr [229] [] S14_8 S23_29 := by rw [eS23_29]; exact cfr.aI y7_ (by decide)
        have o31_ : qO S23_29 66 0 = qO S14_8 66 0 := qO_eq (f30_.kO (y5_.2.1 _ finC_31).2.1 (by decide) (by decide))
        have t32_ : (qI S23_29 (qO S23_29 66 0) 2).toInt = (qI S14_8 (qO S14_8 66 0) 2).toInt := by rw [o31_]; exact congrArg Int32.toInt (f30_.kI (j := 2) (y5_.ref (y5_.ptr ptrC_39) (y5_.2.1 _ finC_31).2.1) (by decide) (by decide))
        have t33_ : (qI S23_29 (qO S23_29 66 0) 9).toInt = (qI S14_8 (qO S14_8 66 0) 9).toInt := by rw [o31_]; exact congrArg Int32.toInt (f30_.kI (j := 9) (y5_.ref (y5_.ptr ptrC_39) (y5_.2.1 _ finC_31).2.1) (by decide) (by decide))
        have t34_ : (qI S23_29 (qO S23_29 66 0) 4).toInt = (qI S14_8 (qO S14_8 66 0) 4).toInt := by rw [o31_]; exact congrArg Int32.toInt (f30_.kI (j := 4) (y5_.ref (y5_.ptr ptrC_39) (y5_.2.1 _ finC_31).2.1) (by decide) (by decide))
        have t35_ : (qN S23_29 (qO S23_29 (qO S23_29 66 0) 1) : Int) = (qN S14_8 (qO S14_8 (qO S14_8 66 0) 1) : Int) := by rw [o31_]; exact f30_.kL (j := 1) y5_ (y5_.ref (y5_.ptr ptrC_39) (y5_.2.1 _ finC_31).2.1) (g.row (y5_.ref (y5_.ptr ptrC_39) (y5_.2.1 _ finC_31).2.1)).1.2.1 (by decide) (by decide)
        have t36_ : (qN S23_29 (qO S23_29 (qO S23_29 66 0) 8) : Int) = (qN S14_8 (qO S14_8 (qO S14_8 66 0) 8) : Int) := by rw [o31_]; exact f30_.kL (j := 8) y5_ (y5_.ref (y5_.ptr ptrC_39) (y5_.2.1 _ finC_31).2.1) (g.row (y5_.ref (y5_.ptr ptrC_39) (y5_.2.1 _ finC_31).2.1)).1.2.2.2.2.2.2 (by decide) (by decide)
        have t37_ : (qN S23_29 (qO S23_29 (qO S23_29 66 0) 7) : Int) = (qN S14_8 (qO S14_8 (qO S14_8 66 0) 7) : Int) := by rw [o31_]; exact f30_.kL (j := 7) y5_ (y5_.ref (y5_.ptr ptrC_39) (y5_.2.1 _ finC_31).2.1) (g.row (y5_.ref (y5_.ptr ptrC_39) (y5_.2.1 _ finC_31).2.1)).1.2.2.2.2.2.1 (by decide) (by decide)
        have t38_ : (qN S23_29 (qO S23_29 (qO S23_29 66 0) 0) : Int) = (qN S14_8 (qO S14_8 (qO S14_8 66 0) 0) : Int) := by rw [o31_]; exact f30_.kL (j := 0) y5_ (y5_.ref (y5_.ptr ptrC_39) (y5_.2.1 _ finC_31).2.1) (g.row (y5_.ref (y5_.ptr ptrC_39) (y5_.2.1 _ finC_31).2.1)).1.1 (by decide) (by decide)
        have t39_ : (qN S23_29 (qO S23_29 (qO S23_29 66 0) 6) : Int) = (qN S14_8 (qO S14_8 (qO S14_8 66 0) 6) : Int) := by rw [o31_]; exact f30_.kL (j := 6) y5_ (y5_.ref (y5_.ptr ptrC_39) (y5_.2.1 _ finC_31).2.1) (g.row (y5_.ref (y5_.ptr ptrC_39) (y5_.2.1 _ finC_31).2.1)).1.2.2.2.2.1 (by decide) (by decide)
        have t40_ : (qN S23_29 (qO S23_29 (qO S23_29 66 0) 3) : Int) = (qN S14_8 (qO S14_8 (qO S14_8 66 0) 3) : Int) := by rw [o31_]; exact f30_.kL (j := 3) y5_ (y5_.ref (y5_.ptr ptrC_39) (y5_.2.1 _ finC_31).2.1) (g.row (y5_.ref (y5_.ptr ptrC_39) (y5_.2.1 _ finC_31).2.1)).1.2.2.1 (by decide) (by decide)
        have t41_ : (qN S23_29 (qO S23_29 (qO S23_29 66 0) 5) : Int) = (qN S14_8 (qO S14_8 (qO S14_8 66 0) 5) : Int) := by rw [o31_]; exact f30_.kL (j := 5) y5_ (y5_.ref (y5_.ptr ptrC_39) (y5_.2.1 _ finC_31).2.1) (g.row (y5_.ref (y5_.ptr ptrC_39) (y5_.2.1 _ finC_31).2.1)).1.2.2.2.1 (by decide) (by decide)
        have t42_ : (qN S23_29 (qO S23_29 66 4) : Int) = (qN S14_8 (qO S14_8 66 4) : Int) := f30_.kL (j := 4) y5_ (y5_.2.1 _ finC_31).2.1 (y5_.ptr ptrC_37) (by decide) (by decide)
        have g : ShC B S23_29 := ShC.ws y5_ g f30_ (by rw [eS23_29]; rfl) (by rw [eS23_29]; rfl) (by rw [eS23_29]; rfl) rfl rfl
        intro a24_43 ea24_43 
        have ga24_43 := t_dec ea24_43
        refine ih34 g ?_ ?_ ?_ ?_ ?_ ?_
        · have s44_ := (g.row (y8_.ref (y8_.ptr ptrC_39) (y8_.2.1 _ finC_31).2.1)).2
          have s45_ := y8_.len9 (y8_.ref (y8_.ptr ptrC_37) (y8_.2.1 _ finC_31).2.1) (by decide)
          have s46_ := g.smk
          unfold SmK at s46_
          have n1_ := rgI v34_2
          have n2_ := rgI v34_3
          have n3_ := rgI (qI U34 (qO U34 66 0) 2)
          have n4_ := rgI r13_8
          have n5_ := rgI (qI S14_8 (qO S14_8 66 4) v34_3.toInt.toNat)
          have n6_ := rgI a20_25
          have n7_ := rgI (v34_1 ||| (0 : Int32))
          have n8_ := rgI a24_43
          omega
        · have s47_ := (g.row (y8_.ref (y8_.ptr ptrC_39) (y8_.2.1 _ finC_31).2.1)).2
          have s48_ := y8_.len9 (y8_.ref (y8_.ptr ptrC_37) (y8_.2.1 _ finC_31).2.1) (by decide)
          have s49_ := g.smk
          unfold SmK at s49_
          have n1_ := rgI v34_2
          have n2_ := rgI v34_3
          have n3_ := rgI (qI U34 (qO U34 66 0) 2)
          have n4_ := rgI r13_8
          have n5_ := rgI (qI S14_8 (qO S14_8 66 4) v34_3.toInt.toNat)
          have n6_ := rgI a20_25
          have n7_ := rgI (v34_1 ||| (0 : Int32))
          have n8_ := rgI a24_43
          omega
        · have s50_ := (g.row (y8_.ref (y8_.ptr ptrC_39) (y8_.2.1 _ finC_31).2.1)).2
          have s51_ := y8_.len9 (y8_.ref (y8_.ptr ptrC_37) (y8_.2.1 _ finC_31).2.1) (by decide)
          have s52_ := g.smk
          unfold SmK at s52_
          have n1_ := rgI v34_2
          have n2_ := rgI v34_3
          have n3_ := rgI (qI U34 (qO U34 66 0) 2)
          have n4_ := rgI r13_8
          have n5_ := rgI (qI S14_8 (qO S14_8 66 4) v34_3.toInt.toNat)
          have n6_ := rgI a20_25
          have n7_ := rgI (v34_1 ||| (0 : Int32))
          have n8_ := rgI a24_43
          omega
        · have s53_ := (g.row (y8_.ref (y8_.ptr ptrC_39) (y8_.2.1 _ finC_31).2.1)).2
          have s54_ := y8_.len9 (y8_.ref (y8_.ptr ptrC_37) (y8_.2.1 _ finC_31).2.1) (by decide)
          have s55_ := g.smk
          unfold SmK at s55_
          have n1_ := rgI a24_43
          have n2_ := rgI (qI S23_29 (qO S23_29 66 0) 2)
          have n3_ := rgI v34_2
          have n4_ := rgI v34_3
          have n5_ := rgI (qI U34 (qO U34 66 0) 2)
          have n6_ := rgI r13_8
          have n7_ := rgI (qI S14_8 (qO S14_8 66 4) v34_3.toInt.toNat)
          have n8_ := rgI a20_25
          have n9_ := rgI (v34_1 ||| (0 : Int32))
          omega
        · have s56_ := (g.row (y8_.ref (y8_.ptr ptrC_39) (y8_.2.1 _ finC_31).2.1)).2
          have s57_ := y8_.len9 (y8_.ref (y8_.ptr ptrC_37) (y8_.2.1 _ finC_31).2.1) (by decide)
          have s58_ := g.smk
          unfold SmK at s58_
          have n1_ := rgI a24_43
          have n2_ := rgI v34_2
          have n3_ := rgI v34_3
          have n4_ := rgI (qI U34 (qO U34 66 0) 2)
          have n5_ := rgI r13_8
          have n6_ := rgI (qI S14_8 (qO S14_8 66 4) v34_3.toInt.toNat)
          have n7_ := rgI a20_25
          have n8_ := rgI (v34_1 ||| (0 : Int32))
          omega
        · have s59_ := (g.row (y8_.ref (y8_.ptr ptrC_39) (y8_.2.1 _ finC_31).2.1)).2
          have s60_ := y8_.len9 (y8_.ref (y8_.ptr ptrC_37) (y8_.2.1 _ finC_31).2.1) (by decide)
          have s61_ := g.smk
          unfold SmK at s61_
          have n1_ := rgI a24_43
          have n2_ := rgI v34_2
          have n3_ := rgI v34_3
          have n4_ := rgI (qI U34 (qO U34 66 0) 2)
          have n5_ := rgI r13_8
          have n6_ := rgI (qI S14_8 (qO S14_8 66 4) v34_3.toInt.toNat)
          have n7_ := rgI a20_25
          have n8_ := rgI (v34_1 ||| (0 : Int32))
          omega
      · unfold w_X9_findLive_J62
        intro y9_ y10_
        intro a20_62 ea20_62 
        have ga20_62 := congrArg Int32.toInt ea20_62
        refine ⟨?_, ?_⟩
        · have s63_ := (g.row (y9_.ref (y9_.ptr ptrC_39) (y9_.2.1 _ finC_31).2.1)).2
          have s64_ := y9_.len9 (y9_.ref (y9_.ptr ptrC_37) (y9_.2.1 _ finC_31).2.1) (by decide)
          have s65_ := g.smk
          unfold SmK at s65_
          have n1_ := rgI v34_3
          have n2_ := rgI v34_2
          have n3_ := rgI (qI U34 (qO U34 66 0) 2)
          have n4_ := rgI r13_8
          have n5_ := rgI (qI S14_8 (qO S14_8 66 4) v34_3.toInt.toNat)
          have n6_ := rgI a20_62
          have n7_ := rgI (v34_1 ||| (1 : Int32))
          omega
        intro S23_66 eS23_66 y11_ y12_
        have f67_ : cfr [229] [] S14_8 S23_66 := by rw [eS23_66]; exact cfr.aI y11_ (by decide)
        have o68_ : qO S23_66 66 0 = qO S14_8 66 0 := qO_eq (f67_.kO (y9_.2.1 _ finC_31).2.1 (by decide) (by decide))
        have t69_ : (qI S23_66 (qO S23_66 66 0) 2).toInt = (qI S14_8 (qO S14_8 66 0) 2).toInt := by rw [o68_]; exact congrArg Int32.toInt (f67_.kI (j := 2) (y9_.ref (y9_.ptr ptrC_39) (y9_.2.1 _ finC_31).2.1) (by decide) (by decide))
        have t70_ : (qI S23_66 (qO S23_66 66 0) 9).toInt = (qI S14_8 (qO S14_8 66 0) 9).toInt := by rw [o68_]; exact congrArg Int32.toInt (f67_.kI (j := 9) (y9_.ref (y9_.ptr ptrC_39) (y9_.2.1 _ finC_31).2.1) (by decide) (by decide))
        have t71_ : (qI S23_66 (qO S23_66 66 0) 4).toInt = (qI S14_8 (qO S14_8 66 0) 4).toInt := by rw [o68_]; exact congrArg Int32.toInt (f67_.kI (j := 4) (y9_.ref (y9_.ptr ptrC_39) (y9_.2.1 _ finC_31).2.1) (by decide) (by decide))
        have t72_ : (qN S23_66 (qO S23_66 (qO S23_66 66 0) 1) : Int) = (qN S14_8 (qO S14_8 (qO S14_8 66 0) 1) : Int) := by rw [o68_]; exact f67_.kL (j := 1) y9_ (y9_.ref (y9_.ptr ptrC_39) (y9_.2.1 _ finC_31).2.1) (g.row (y9_.ref (y9_.ptr ptrC_39) (y9_.2.1 _ finC_31).2.1)).1.2.1 (by decide) (by decide)
        have t73_ : (qN S23_66 (qO S23_66 (qO S23_66 66 0) 8) : Int) = (qN S14_8 (qO S14_8 (qO S14_8 66 0) 8) : Int) := by rw [o68_]; exact f67_.kL (j := 8) y9_ (y9_.ref (y9_.ptr ptrC_39) (y9_.2.1 _ finC_31).2.1) (g.row (y9_.ref (y9_.ptr ptrC_39) (y9_.2.1 _ finC_31).2.1)).1.2.2.2.2.2.2 (by decide) (by decide)
        have t74_ : (qN S23_66 (qO S23_66 (qO S23_66 66 0) 7) : Int) = (qN S14_8 (qO S14_8 (qO S14_8 66 0) 7) : Int) := by rw [o68_]; exact f67_.kL (j := 7) y9_ (y9_.ref (y9_.ptr ptrC_39) (y9_.2.1 _ finC_31).2.1) (g.row (y9_.ref (y9_.ptr ptrC_39) (y9_.2.1 _ finC_31).2.1)).1.2.2.2.2.2.1 (by decide) (by decide)
        have t75_ : (qN S23_66 (qO S23_66 (qO S23_66 66 0) 0) : Int) = (qN S14_8 (qO S14_8 (qO S14_8 66 0) 0) : Int) := by rw [o68_]; exact f67_.kL (j := 0) y9_ (y9_.ref (y9_.ptr ptrC_39) (y9_.2.1 _ finC_31).2.1) (g.row (y9_.ref (y9_.ptr ptrC_39) (y9_.2.1 _ finC_31).2.1)).1.1 (by decide) (by decide)
        have t76_ : (qN S23_66 (qO S23_66 (qO S23_66 66 0) 6) : Int) = (qN S14_8 (qO S14_8 (qO S14_8 66 0) 6) : Int) := by rw [o68_]; exact f67_.kL (j := 6) y9_ (y9_.ref (y9_.ptr ptrC_39) (y9_.2.1 _ finC_31).2.1) (g.row (y9_.ref (y9_.ptr ptrC_39) (y9_.2.1 _ finC_31).2.1)).1.2.2.2.2.1 (by decide) (by decide)
        have t77_ : (qN S23_66 (qO S23_66 (qO S23_66 66 0) 3) : Int) = (qN S14_8 (qO S14_8 (qO S14_8 66 0) 3) : Int) := by rw [o68_]; exact f67_.kL (j := 3) y9_ (y9_.ref (y9_.ptr ptrC_39) (y9_.2.1 _ finC_31).2.1) (g.row (y9_.ref (y9_.ptr ptrC_39) (y9_.2.1 _ finC_31).2.1)).1.2.2.1 (by decide) (by decide)
        have t78_ : (qN S23_66 (qO S23_66 (qO S23_66 66 0) 5) : Int) = (qN S14_8 (qO S14_8 (qO S14_8 66 0) 5) : Int) := by rw [o68_]; exact f67_.kL (j := 5) y9_ (y9_.ref (y9_.ptr ptrC_39) (y9_.2.1 _ finC_31).2.1) (g.row (y9_.ref (y9_.ptr ptrC_39) (y9_.2.1 _ finC_31).2.1)).1.2.2.2.1 (by decide) (by decide)
        have t79_ : (qN S23_66 (qO S23_66 66 4) : Int) = (qN S14_8 (qO S14_8 66 4) : Int) := f67_.kL (j := 4) y9_ (y9_.2.1 _ finC_31).2.1 (y9_.ptr ptrC_37) (by decide) (by decide)
        have g : ShC B S23_66 := ShC.ws y9_ g f67_ (by rw [eS23_66]; rfl) (by rw [eS23_66]; rfl) (by rw [eS23_66]; rfl) rfl rfl
        intro a24_80 ea24_80 
        have ga24_80 := t_dec ea24_80
        refine ih34 g ?_ ?_ ?_ ?_ ?_ ?_
        · have s81_ := (g.row (y12_.ref (y12_.ptr ptrC_39) (y12_.2.1 _ finC_31).2.1)).2
          have s82_ := y12_.len9 (y12_.ref (y12_.ptr ptrC_37) (y12_.2.1 _ finC_31).2.1) (by decide)
          have s83_ := g.smk
          unfold SmK at s83_
          have n1_ := rgI v34_2
          have n2_ := rgI v34_3
          have n3_ := rgI (qI U34 (qO U34 66 0) 2)
          have n4_ := rgI r13_8
          have n5_ := rgI (qI S14_8 (qO S14_8 66 4) v34_3.toInt.toNat)
          have n6_ := rgI a20_62
          have n7_ := rgI (v34_1 ||| (1 : Int32))
          have n8_ := rgI a24_80
          omega
        · have s84_ := (g.row (y12_.ref (y12_.ptr ptrC_39) (y12_.2.1 _ finC_31).2.1)).2
          have s85_ := y12_.len9 (y12_.ref (y12_.ptr ptrC_37) (y12_.2.1 _ finC_31).2.1) (by decide)
          have s86_ := g.smk
          unfold SmK at s86_
          have n1_ := rgI v34_2
          have n2_ := rgI v34_3
          have n3_ := rgI (qI U34 (qO U34 66 0) 2)
          have n4_ := rgI r13_8
          have n5_ := rgI (qI S14_8 (qO S14_8 66 4) v34_3.toInt.toNat)
          have n6_ := rgI a20_62
          have n7_ := rgI (v34_1 ||| (1 : Int32))
          have n8_ := rgI a24_80
          omega
        · have s87_ := (g.row (y12_.ref (y12_.ptr ptrC_39) (y12_.2.1 _ finC_31).2.1)).2
          have s88_ := y12_.len9 (y12_.ref (y12_.ptr ptrC_37) (y12_.2.1 _ finC_31).2.1) (by decide)
          have s89_ := g.smk
          unfold SmK at s89_
          have n1_ := rgI v34_2
          have n2_ := rgI v34_3
          have n3_ := rgI (qI U34 (qO U34 66 0) 2)
          have n4_ := rgI r13_8
          have n5_ := rgI (qI S14_8 (qO S14_8 66 4) v34_3.toInt.toNat)
          have n6_ := rgI a20_62
          have n7_ := rgI (v34_1 ||| (1 : Int32))
          have n8_ := rgI a24_80
          omega
        · have s90_ := (g.row (y12_.ref (y12_.ptr ptrC_39) (y12_.2.1 _ finC_31).2.1)).2
          have s91_ := y12_.len9 (y12_.ref (y12_.ptr ptrC_37) (y12_.2.1 _ finC_31).2.1) (by decide)
          have s92_ := g.smk
          unfold SmK at s92_
          have n1_ := rgI a24_80
          have n2_ := rgI (qI S23_66 (qO S23_66 66 0) 2)
          have n3_ := rgI v34_2
          have n4_ := rgI v34_3
          have n5_ := rgI (qI U34 (qO U34 66 0) 2)
          have n6_ := rgI r13_8
          have n7_ := rgI (qI S14_8 (qO S14_8 66 4) v34_3.toInt.toNat)
          have n8_ := rgI a20_62
          have n9_ := rgI (v34_1 ||| (1 : Int32))
          omega
        · have s93_ := (g.row (y12_.ref (y12_.ptr ptrC_39) (y12_.2.1 _ finC_31).2.1)).2
          have s94_ := y12_.len9 (y12_.ref (y12_.ptr ptrC_37) (y12_.2.1 _ finC_31).2.1) (by decide)
          have s95_ := g.smk
          unfold SmK at s95_
          have n1_ := rgI a24_80
          have n2_ := rgI v34_2
          have n3_ := rgI v34_3
          have n4_ := rgI (qI U34 (qO U34 66 0) 2)
          have n5_ := rgI r13_8
          have n6_ := rgI (qI S14_8 (qO S14_8 66 4) v34_3.toInt.toNat)
          have n7_ := rgI a20_62
          have n8_ := rgI (v34_1 ||| (1 : Int32))
          omega
        · have s96_ := (g.row (y12_.ref (y12_.ptr ptrC_39) (y12_.2.1 _ finC_31).2.1)).2
          have s97_ := y12_.len9 (y12_.ref (y12_.ptr ptrC_37) (y12_.2.1 _ finC_31).2.1) (by decide)
          have s98_ := g.smk
          unfold SmK at s98_
          have n1_ := rgI a24_80
          have n2_ := rgI v34_2
          have n3_ := rgI v34_3
          have n4_ := rgI (qI U34 (qO U34 66 0) 2)
          have n5_ := rgI r13_8
          have n6_ := rgI (qI S14_8 (qO S14_8 66 4) v34_3.toInt.toNat)
          have n7_ := rgI a20_62
          have n8_ := rgI (v34_1 ||| (1 : Int32))
          omega
set_option maxRecDepth 100000 in
theorem sg_X9_findLive_L12 {B : Nat × Nat} : ∀ (n : Nat) {U12 : MS} {v12_1 : Int32} {v12_2 : Int32}, ShC B U12 → 0 ≤ v12_2.toInt → 2147483648 - v12_2.toInt < n → w_X9_findLive_L12 (fun u => ShC B u ∧ (True)) n U12 v12_1 v12_2 := by
  intro n
  induction n with
  | zero => intro U12 v12_1 v12_2 g j0_ hm_; exfalso; have := rgI v12_1; have := rgI v12_2; omega
  | succ n ih12 =>
    intro U12 v12_1 v12_2 g j0_ hm_
    unfold w_X9_findLive_L12
    intro y13_
    refine ⟨fun c99_ => ?_, fun c99_ => ?_⟩
    · exact ⟨g, trivial⟩
    · refine ⟨fun c100_ => ?_, fun c100_ => ?_⟩
      · exact ⟨g, trivial⟩
      · intro a9_101 ea9_101 
        have ga9_101 := congrArg Int32.toInt ea9_101
        refine ⟨(a9_101.toInt + 2147483649).toNat + 1, ?_⟩
        refine sg_X9_findLive_L34  (fun _ _ _ g_ i0_ hm_ => ih12 g_ i0_ hm_) _ g ?_ ?_ ?_ ?_ ?_ ?_
        · have s102_ := (g.row (y13_.ref (y13_.ptr ptrC_39) (y13_.2.1 _ finC_31).2.1)).2
          have s103_ := y13_.len9 (y13_.ref (y13_.ptr ptrC_37) (y13_.2.1 _ finC_31).2.1) (by decide)
          have s104_ := g.smk
          unfold SmK at s104_
          have n1_ := rgI v12_2
          have n2_ := rgI v12_1
          have n3_ := rgI a9_101
          have n5_ := rgI (qI U12 (qO U12 66 0) 2)
          have n6_ := li_1k
          have n6_ := t_subD (a := (qI U12 (qO U12 66 0) 2)) (b := (1 : Int32))
          have n7_ := rgI ((qI U12 (qO U12 66 0) 2) - (1 : Int32))
          omega
        · have s105_ := (g.row (y13_.ref (y13_.ptr ptrC_39) (y13_.2.1 _ finC_31).2.1)).2
          have s106_ := y13_.len9 (y13_.ref (y13_.ptr ptrC_37) (y13_.2.1 _ finC_31).2.1) (by decide)
          have s107_ := g.smk
          unfold SmK at s107_
          have n1_ := rgI v12_2
          have n2_ := rgI v12_1
          have n3_ := rgI a9_101
          have n5_ := rgI (qI U12 (qO U12 66 0) 2)
          have n6_ := li_1k
          have n6_ := t_subD (a := (qI U12 (qO U12 66 0) 2)) (b := (1 : Int32))
          have n7_ := rgI ((qI U12 (qO U12 66 0) 2) - (1 : Int32))
          omega
        · have s108_ := (g.row (y13_.ref (y13_.ptr ptrC_39) (y13_.2.1 _ finC_31).2.1)).2
          have s109_ := y13_.len9 (y13_.ref (y13_.ptr ptrC_37) (y13_.2.1 _ finC_31).2.1) (by decide)
          have s110_ := g.smk
          unfold SmK at s110_
          have n1_ := rgI v12_2
          have n2_ := rgI v12_1
          have n3_ := rgI a9_101
          have n5_ := rgI (qI U12 (qO U12 66 0) 2)
          have n6_ := li_1k
          have n6_ := t_subD (a := (qI U12 (qO U12 66 0) 2)) (b := (1 : Int32))
          have n7_ := rgI ((qI U12 (qO U12 66 0) 2) - (1 : Int32))
          omega
        · have s111_ := (g.row (y13_.ref (y13_.ptr ptrC_39) (y13_.2.1 _ finC_31).2.1)).2
          have s112_ := y13_.len9 (y13_.ref (y13_.ptr ptrC_37) (y13_.2.1 _ finC_31).2.1) (by decide)
          have s113_ := g.smk
          unfold SmK at s113_
          have n1_ := rgI a9_101
          have n2_ := rgI (qI U12 (qO U12 66 0) 2)
          have n3_ := rgI v12_2
          have n4_ := rgI v12_1
          have n6_ := li_1k
          have n6_ := t_subD (a := (qI U12 (qO U12 66 0) 2)) (b := (1 : Int32))
          have n7_ := rgI ((qI U12 (qO U12 66 0) 2) - (1 : Int32))
          omega
        · have s114_ := (g.row (y13_.ref (y13_.ptr ptrC_39) (y13_.2.1 _ finC_31).2.1)).2
          have s115_ := y13_.len9 (y13_.ref (y13_.ptr ptrC_37) (y13_.2.1 _ finC_31).2.1) (by decide)
          have s116_ := g.smk
          unfold SmK at s116_
          have n1_ := rgI a9_101
          have n2_ := rgI v12_2
          have n3_ := rgI v12_1
          have n5_ := rgI (qI U12 (qO U12 66 0) 2)
          have n6_ := li_1k
          have n6_ := t_subD (a := (qI U12 (qO U12 66 0) 2)) (b := (1 : Int32))
          have n7_ := rgI ((qI U12 (qO U12 66 0) 2) - (1 : Int32))
          omega
        · have s117_ := (g.row (y13_.ref (y13_.ptr ptrC_39) (y13_.2.1 _ finC_31).2.1)).2
          have s118_ := y13_.len9 (y13_.ref (y13_.ptr ptrC_37) (y13_.2.1 _ finC_31).2.1) (by decide)
          have s119_ := g.smk
          unfold SmK at s119_
          have n1_ := rgI a9_101
          have n2_ := rgI v12_2
          have n3_ := rgI v12_1
          have n5_ := rgI (qI U12 (qO U12 66 0) 2)
          have n6_ := li_1k
          have n6_ := t_subD (a := (qI U12 (qO U12 66 0) 2)) (b := (1 : Int32))
          have n7_ := rgI ((qI U12 (qO U12 66 0) 2) - (1 : Int32))
          omega
set_option maxRecDepth 100000 in
theorem sgX9_findLive {B : Nat × Nat} {S : MS} (hw : wfC S) (g : ShC B S) : wX9_findLive S (fun u => ShC B u ∧ (True)) := by
  unfold wX9_findLive
  intro y14_
  refine ⟨_, frJ7_fill_53178 y14_ (by decide) (sfJ7_fill_53178 hw y14_ (by decide)), ?_⟩
  intro S3_120 q15_ y16_ y17_
  have o121_ : qO S3_120 66 0 = qO S 66 0 := qO_eq (q15_.2.kO (hw.2.1 _ finC_31).2.1 (by decide) (by decide))
  have t122_ : (qI S3_120 (qO S3_120 66 0) 2).toInt = (qI S (qO S 66 0) 2).toInt := by rw [o121_]; exact congrArg Int32.toInt (q15_.2.kI (j := 2) (hw.ref (hw.ptr ptrC_39) (hw.2.1 _ finC_31).2.1) (by decide) (by decide))
  have t123_ : (qI S3_120 (qO S3_120 66 0) 9).toInt = (qI S (qO S 66 0) 9).toInt := by rw [o121_]; exact congrArg Int32.toInt (q15_.2.kI (j := 9) (hw.ref (hw.ptr ptrC_39) (hw.2.1 _ finC_31).2.1) (by decide) (by decide))
  have t124_ : (qI S3_120 (qO S3_120 66 0) 4).toInt = (qI S (qO S 66 0) 4).toInt := by rw [o121_]; exact congrArg Int32.toInt (q15_.2.kI (j := 4) (hw.ref (hw.ptr ptrC_39) (hw.2.1 _ finC_31).2.1) (by decide) (by decide))
  have t125_ : (qN S3_120 (qO S3_120 (qO S3_120 66 0) 1) : Int) = (qN S (qO S (qO S 66 0) 1) : Int) := by rw [o121_]; exact q15_.2.kL (j := 1) hw (hw.ref (hw.ptr ptrC_39) (hw.2.1 _ finC_31).2.1) (g.row (hw.ref (hw.ptr ptrC_39) (hw.2.1 _ finC_31).2.1)).1.2.1 (by decide) (by decide)
  have t126_ : (qN S3_120 (qO S3_120 (qO S3_120 66 0) 8) : Int) = (qN S (qO S (qO S 66 0) 8) : Int) := by rw [o121_]; exact q15_.2.kL (j := 8) hw (hw.ref (hw.ptr ptrC_39) (hw.2.1 _ finC_31).2.1) (g.row (hw.ref (hw.ptr ptrC_39) (hw.2.1 _ finC_31).2.1)).1.2.2.2.2.2.2 (by decide) (by decide)
  have t127_ : (qN S3_120 (qO S3_120 (qO S3_120 66 0) 7) : Int) = (qN S (qO S (qO S 66 0) 7) : Int) := by rw [o121_]; exact q15_.2.kL (j := 7) hw (hw.ref (hw.ptr ptrC_39) (hw.2.1 _ finC_31).2.1) (g.row (hw.ref (hw.ptr ptrC_39) (hw.2.1 _ finC_31).2.1)).1.2.2.2.2.2.1 (by decide) (by decide)
  have t128_ : (qN S3_120 (qO S3_120 (qO S3_120 66 0) 0) : Int) = (qN S (qO S (qO S 66 0) 0) : Int) := by rw [o121_]; exact q15_.2.kL (j := 0) hw (hw.ref (hw.ptr ptrC_39) (hw.2.1 _ finC_31).2.1) (g.row (hw.ref (hw.ptr ptrC_39) (hw.2.1 _ finC_31).2.1)).1.1 (by decide) (by decide)
  have t129_ : (qN S3_120 (qO S3_120 (qO S3_120 66 0) 6) : Int) = (qN S (qO S (qO S 66 0) 6) : Int) := by rw [o121_]; exact q15_.2.kL (j := 6) hw (hw.ref (hw.ptr ptrC_39) (hw.2.1 _ finC_31).2.1) (g.row (hw.ref (hw.ptr ptrC_39) (hw.2.1 _ finC_31).2.1)).1.2.2.2.2.1 (by decide) (by decide)
  have t130_ : (qN S3_120 (qO S3_120 (qO S3_120 66 0) 3) : Int) = (qN S (qO S (qO S 66 0) 3) : Int) := by rw [o121_]; exact q15_.2.kL (j := 3) hw (hw.ref (hw.ptr ptrC_39) (hw.2.1 _ finC_31).2.1) (g.row (hw.ref (hw.ptr ptrC_39) (hw.2.1 _ finC_31).2.1)).1.2.2.1 (by decide) (by decide)
  have t131_ : (qN S3_120 (qO S3_120 (qO S3_120 66 0) 5) : Int) = (qN S (qO S (qO S 66 0) 5) : Int) := by rw [o121_]; exact q15_.2.kL (j := 5) hw (hw.ref (hw.ptr ptrC_39) (hw.2.1 _ finC_31).2.1) (g.row (hw.ref (hw.ptr ptrC_39) (hw.2.1 _ finC_31).2.1)).1.2.2.2.1 (by decide) (by decide)
  have t132_ : (qN S3_120 (qO S3_120 66 4) : Int) = (qN S (qO S 66 4) : Int) := q15_.2.kL (j := 4) hw (hw.2.1 _ finC_31).2.1 (hw.ptr ptrC_37) (by decide) (by decide)
  have g : ShC B S3_120 := ShC.ca hw g q15_.2 y17_ y16_ rfl rfl
  refine ⟨(2147483648 - (0 : Int32).toInt).toNat + 1, ?_⟩
  refine sg_X9_findLive_L12  _ g ?_ ?_
  · have s133_ := (g.row (y16_.ref (y16_.ptr ptrC_39) (y16_.2.1 _ finC_31).2.1)).2
    have s134_ := y16_.len9 (y16_.ref (y16_.ptr ptrC_37) (y16_.2.1 _ finC_31).2.1) (by decide)
    have s135_ := g.smk
    unfold SmK at s135_
    have n1_ := li_0k
    omega
  · have s136_ := (g.row (y16_.ref (y16_.ptr ptrC_39) (y16_.2.1 _ finC_31).2.1)).2
    have s137_ := y16_.len9 (y16_.ref (y16_.ptr ptrC_37) (y16_.2.1 _ finC_31).2.1) (by decide)
    have s138_ := g.smk
    unfold SmK at s138_
    have n1_ := li_0k
    omega
set_option maxRecDepth 100000 in
theorem sgX9_isDone {B : Nat × Nat} {S : MS} {x1 : Int32} {x2 : Int32} (hw : wfC S) (g : ShC B S) (a0_ : x2.toInt ≤ 50000) : wX9_isDone S x1 x2 (fun _ u => ShC B u ∧ (True)) := by
  unfold wX9_isDone
  refine ⟨fun c0_ => ?_, fun c0_ => ?_⟩
  · refine ⟨_, frX9_isRedirected hw (sgX9_isRedirected hw g), ?_⟩
    intro r89_1 S90_1 q1_ y2_ y3_
    have o2_ : qO S90_1 66 0 = qO S 66 0 := qO_eq (q1_.2.kO (hw.2.1 _ finC_31).2.1 (by decide) (by decide))
    have t3_ : (qI S90_1 (qO S90_1 66 0) 2).toInt = (qI S (qO S 66 0) 2).toInt := by rw [o2_]; exact congrArg Int32.toInt (q1_.2.kI (j := 2) (hw.ref (hw.ptr ptrC_39) (hw.2.1 _ finC_31).2.1) (by decide) (by decide))
    have t4_ : (qI S90_1 (qO S90_1 66 0) 9).toInt = (qI S (qO S 66 0) 9).toInt := by rw [o2_]; exact congrArg Int32.toInt (q1_.2.kI (j := 9) (hw.ref (hw.ptr ptrC_39) (hw.2.1 _ finC_31).2.1) (by decide) (by decide))
    have t5_ : (qI S90_1 (qO S90_1 66 0) 4).toInt = (qI S (qO S 66 0) 4).toInt := by rw [o2_]; exact congrArg Int32.toInt (q1_.2.kI (j := 4) (hw.ref (hw.ptr ptrC_39) (hw.2.1 _ finC_31).2.1) (by decide) (by decide))
    have t6_ : (qN S90_1 (qO S90_1 (qO S90_1 66 0) 1) : Int) = (qN S (qO S (qO S 66 0) 1) : Int) := by rw [o2_]; exact q1_.2.kL (j := 1) hw (hw.ref (hw.ptr ptrC_39) (hw.2.1 _ finC_31).2.1) (g.row (hw.ref (hw.ptr ptrC_39) (hw.2.1 _ finC_31).2.1)).1.2.1 (by decide) (by decide)
    have t7_ : (qN S90_1 (qO S90_1 (qO S90_1 66 0) 8) : Int) = (qN S (qO S (qO S 66 0) 8) : Int) := by rw [o2_]; exact q1_.2.kL (j := 8) hw (hw.ref (hw.ptr ptrC_39) (hw.2.1 _ finC_31).2.1) (g.row (hw.ref (hw.ptr ptrC_39) (hw.2.1 _ finC_31).2.1)).1.2.2.2.2.2.2 (by decide) (by decide)
    have t8_ : (qN S90_1 (qO S90_1 (qO S90_1 66 0) 7) : Int) = (qN S (qO S (qO S 66 0) 7) : Int) := by rw [o2_]; exact q1_.2.kL (j := 7) hw (hw.ref (hw.ptr ptrC_39) (hw.2.1 _ finC_31).2.1) (g.row (hw.ref (hw.ptr ptrC_39) (hw.2.1 _ finC_31).2.1)).1.2.2.2.2.2.1 (by decide) (by decide)
    have t9_ : (qN S90_1 (qO S90_1 (qO S90_1 66 0) 0) : Int) = (qN S (qO S (qO S 66 0) 0) : Int) := by rw [o2_]; exact q1_.2.kL (j := 0) hw (hw.ref (hw.ptr ptrC_39) (hw.2.1 _ finC_31).2.1) (g.row (hw.ref (hw.ptr ptrC_39) (hw.2.1 _ finC_31).2.1)).1.1 (by decide) (by decide)
    have t10_ : (qN S90_1 (qO S90_1 (qO S90_1 66 0) 6) : Int) = (qN S (qO S (qO S 66 0) 6) : Int) := by rw [o2_]; exact q1_.2.kL (j := 6) hw (hw.ref (hw.ptr ptrC_39) (hw.2.1 _ finC_31).2.1) (g.row (hw.ref (hw.ptr ptrC_39) (hw.2.1 _ finC_31).2.1)).1.2.2.2.2.1 (by decide) (by decide)
    have t11_ : (qN S90_1 (qO S90_1 (qO S90_1 66 0) 3) : Int) = (qN S (qO S (qO S 66 0) 3) : Int) := by rw [o2_]; exact q1_.2.kL (j := 3) hw (hw.ref (hw.ptr ptrC_39) (hw.2.1 _ finC_31).2.1) (g.row (hw.ref (hw.ptr ptrC_39) (hw.2.1 _ finC_31).2.1)).1.2.2.1 (by decide) (by decide)
    have t12_ : (qN S90_1 (qO S90_1 (qO S90_1 66 0) 5) : Int) = (qN S (qO S (qO S 66 0) 5) : Int) := by rw [o2_]; exact q1_.2.kL (j := 5) hw (hw.ref (hw.ptr ptrC_39) (hw.2.1 _ finC_31).2.1) (g.row (hw.ref (hw.ptr ptrC_39) (hw.2.1 _ finC_31).2.1)).1.2.2.2.1 (by decide) (by decide)
    have g : ShC B S90_1 := q1_.1.1
    exact ⟨g, trivial⟩
  · refine ⟨fun c13_ => ?_, fun c13_ => ?_⟩
    · refine ⟨fun c14_ => ?_, fun c14_ => ?_⟩
      · refine ⟨?_, ?_⟩
        · exact (dd_X8_opAt hw g (hw.ref (hw.ptr ptrC_39) (hw.2.1 _ finC_31).2.1))
        refine ⟨fun c15_ => ?_, fun c15_ => ?_⟩
        · refine ⟨?_, ?_⟩
          · exact (dd_X8_argAt hw g (hw.ref (hw.ptr ptrC_39) (hw.2.1 _ finC_31).2.1))
          refine ⟨fun c16_ => ?_, fun c16_ => ?_⟩
          · refine ⟨_, frX9_isDropped hw (sgX9_isDropped hw g (by have s18_ := (g.row (hw.ref (hw.ptr ptrC_39) (hw.2.1 _ finC_31).2.1)).2; have s19_ := g.smk; unfold SmK at s19_; have n1_ := li_1k; have n2_ := rgI x2; have n3_ := rgI x1; have n5_ := rgI (qI S (qO S 66 0) 2); have n5_ := t_subD (a := (qI S (qO S 66 0) 2)) (b := (1 : Int32)); have n6_ := rgI ((qI S (qO S 66 0) 2) - (1 : Int32)); have n7_ := rgI (fX8_opAt S (qO S 66 0) x2); have n8_ := rgI (lg_cmp (fX8_argAt S (qO S 66 0) x2) ((x2 + (1 : Int32)).toInt64)); omega) (by have s20_ := (g.row (hw.ref (hw.ptr ptrC_39) (hw.2.1 _ finC_31).2.1)).2; have s21_ := g.smk; unfold SmK at s21_; have n1_ := rgI x2; have n2_ := rgI x1; have n4_ := rgI (qI S (qO S 66 0) 2); have n5_ := li_1k; have n5_ := t_subD (a := (qI S (qO S 66 0) 2)) (b := (1 : Int32)); have n6_ := rgI ((qI S (qO S 66 0) 2) - (1 : Int32)); have n7_ := rgI (fX8_opAt S (qO S 66 0) x2); have n8_ := rgI (lg_cmp (fX8_argAt S (qO S 66 0) x2) ((x2 + (1 : Int32)).toInt64)); omega)), ?_⟩
            intro r18_17 S19_17 q4_ y5_ y6_
            have o22_ : qO S19_17 66 0 = qO S 66 0 := qO_eq (q4_.2.kO (hw.2.1 _ finC_31).2.1 (by decide) (by decide))
            have t23_ : (qI S19_17 (qO S19_17 66 0) 4).toInt = (qI S (qO S 66 0) 4).toInt := by rw [o22_]; exact congrArg Int32.toInt (q4_.2.kI (j := 4) (hw.ref (hw.ptr ptrC_39) (hw.2.1 _ finC_31).2.1) (by decide) (by decide))
            have t24_ : (qN S19_17 (qO S19_17 (qO S19_17 66 0) 1) : Int) = (qN S (qO S (qO S 66 0) 1) : Int) := by rw [o22_]; exact q4_.2.kL (j := 1) hw (hw.ref (hw.ptr ptrC_39) (hw.2.1 _ finC_31).2.1) (g.row (hw.ref (hw.ptr ptrC_39) (hw.2.1 _ finC_31).2.1)).1.2.1 (by decide) (by decide)
            have t25_ : (qN S19_17 (qO S19_17 (qO S19_17 66 0) 8) : Int) = (qN S (qO S (qO S 66 0) 8) : Int) := by rw [o22_]; exact q4_.2.kL (j := 8) hw (hw.ref (hw.ptr ptrC_39) (hw.2.1 _ finC_31).2.1) (g.row (hw.ref (hw.ptr ptrC_39) (hw.2.1 _ finC_31).2.1)).1.2.2.2.2.2.2 (by decide) (by decide)
            have t26_ : (qN S19_17 (qO S19_17 (qO S19_17 66 0) 7) : Int) = (qN S (qO S (qO S 66 0) 7) : Int) := by rw [o22_]; exact q4_.2.kL (j := 7) hw (hw.ref (hw.ptr ptrC_39) (hw.2.1 _ finC_31).2.1) (g.row (hw.ref (hw.ptr ptrC_39) (hw.2.1 _ finC_31).2.1)).1.2.2.2.2.2.1 (by decide) (by decide)
            have t27_ : (qN S19_17 (qO S19_17 (qO S19_17 66 0) 0) : Int) = (qN S (qO S (qO S 66 0) 0) : Int) := by rw [o22_]; exact q4_.2.kL (j := 0) hw (hw.ref (hw.ptr ptrC_39) (hw.2.1 _ finC_31).2.1) (g.row (hw.ref (hw.ptr ptrC_39) (hw.2.1 _ finC_31).2.1)).1.1 (by decide) (by decide)
            have t28_ : (qN S19_17 (qO S19_17 (qO S19_17 66 0) 6) : Int) = (qN S (qO S (qO S 66 0) 6) : Int) := by rw [o22_]; exact q4_.2.kL (j := 6) hw (hw.ref (hw.ptr ptrC_39) (hw.2.1 _ finC_31).2.1) (g.row (hw.ref (hw.ptr ptrC_39) (hw.2.1 _ finC_31).2.1)).1.2.2.2.2.1 (by decide) (by decide)
            have t29_ : (qN S19_17 (qO S19_17 (qO S19_17 66 0) 3) : Int) = (qN S (qO S (qO S 66 0) 3) : Int) := by rw [o22_]; exact q4_.2.kL (j := 3) hw (hw.ref (hw.ptr ptrC_39) (hw.2.1 _ finC_31).2.1) (g.row (hw.ref (hw.ptr ptrC_39) (hw.2.1 _ finC_31).2.1)).1.2.2.1 (by decide) (by decide)
            have t30_ : (qN S19_17 (qO S19_17 (qO S19_17 66 0) 5) : Int) = (qN S (qO S (qO S 66 0) 5) : Int) := by rw [o22_]; exact q4_.2.kL (j := 5) hw (hw.ref (hw.ptr ptrC_39) (hw.2.1 _ finC_31).2.1) (g.row (hw.ref (hw.ptr ptrC_39) (hw.2.1 _ finC_31).2.1)).1.2.2.2.1 (by decide) (by decide)
            have g : ShC B S19_17 := q4_.1.1
            refine ⟨fun c31_ => ?_, fun c31_ => ?_⟩
            · unfold w_X9_isDone_J115
              intro y7_
              exact ⟨g, trivial⟩
            · exact ⟨g, trivial⟩
          · unfold w_X9_isDone_J115
            intro y8_
            exact ⟨g, trivial⟩
        · unfold w_X9_isDone_J115
          intro y9_
          exact ⟨g, trivial⟩
      · refine ⟨fun c32_ => ?_, fun c32_ => ?_⟩
        · refine ⟨?_, ?_⟩
          · exact (dd_X8_opAt hw g (hw.ref (hw.ptr ptrC_39) (hw.2.1 _ finC_31).2.1))
          refine ⟨fun c33_ => ?_, fun c33_ => ?_⟩
          · refine ⟨_, frX9_isDropped hw (sgX9_isDropped hw g (by have s35_ := (g.row (hw.ref (hw.ptr ptrC_39) (hw.2.1 _ finC_31).2.1)).2; have s36_ := g.smk; unfold SmK at s36_; have n1_ := li_1k; have n2_ := rgI x2; have n3_ := rgI x1; have n5_ := rgI (qI S (qO S 66 0) 2); have n5_ := t_subD (a := (qI S (qO S 66 0) 2)) (b := (1 : Int32)); have n6_ := rgI ((qI S (qO S 66 0) 2) - (1 : Int32)); have n7_ := rgI (fX8_opAt S (qO S 66 0) x2); omega) (by have s37_ := (g.row (hw.ref (hw.ptr ptrC_39) (hw.2.1 _ finC_31).2.1)).2; have s38_ := g.smk; unfold SmK at s38_; have n1_ := rgI x2; have n2_ := rgI x1; have n4_ := rgI (qI S (qO S 66 0) 2); have n5_ := li_1k; have n5_ := t_subD (a := (qI S (qO S 66 0) 2)) (b := (1 : Int32)); have n6_ := rgI ((qI S (qO S 66 0) 2) - (1 : Int32)); have n7_ := rgI (fX8_opAt S (qO S 66 0) x2); omega)), ?_⟩
            intro r28_34 S29_34 q10_ y11_ y12_
            have o39_ : qO S29_34 66 0 = qO S 66 0 := qO_eq (q10_.2.kO (hw.2.1 _ finC_31).2.1 (by decide) (by decide))
            have t40_ : (qI S29_34 (qO S29_34 66 0) 4).toInt = (qI S (qO S 66 0) 4).toInt := by rw [o39_]; exact congrArg Int32.toInt (q10_.2.kI (j := 4) (hw.ref (hw.ptr ptrC_39) (hw.2.1 _ finC_31).2.1) (by decide) (by decide))
            have t41_ : (qN S29_34 (qO S29_34 (qO S29_34 66 0) 1) : Int) = (qN S (qO S (qO S 66 0) 1) : Int) := by rw [o39_]; exact q10_.2.kL (j := 1) hw (hw.ref (hw.ptr ptrC_39) (hw.2.1 _ finC_31).2.1) (g.row (hw.ref (hw.ptr ptrC_39) (hw.2.1 _ finC_31).2.1)).1.2.1 (by decide) (by decide)
            have t42_ : (qN S29_34 (qO S29_34 (qO S29_34 66 0) 8) : Int) = (qN S (qO S (qO S 66 0) 8) : Int) := by rw [o39_]; exact q10_.2.kL (j := 8) hw (hw.ref (hw.ptr ptrC_39) (hw.2.1 _ finC_31).2.1) (g.row (hw.ref (hw.ptr ptrC_39) (hw.2.1 _ finC_31).2.1)).1.2.2.2.2.2.2 (by decide) (by decide)
            have t43_ : (qN S29_34 (qO S29_34 (qO S29_34 66 0) 7) : Int) = (qN S (qO S (qO S 66 0) 7) : Int) := by rw [o39_]; exact q10_.2.kL (j := 7) hw (hw.ref (hw.ptr ptrC_39) (hw.2.1 _ finC_31).2.1) (g.row (hw.ref (hw.ptr ptrC_39) (hw.2.1 _ finC_31).2.1)).1.2.2.2.2.2.1 (by decide) (by decide)
            have t44_ : (qN S29_34 (qO S29_34 (qO S29_34 66 0) 0) : Int) = (qN S (qO S (qO S 66 0) 0) : Int) := by rw [o39_]; exact q10_.2.kL (j := 0) hw (hw.ref (hw.ptr ptrC_39) (hw.2.1 _ finC_31).2.1) (g.row (hw.ref (hw.ptr ptrC_39) (hw.2.1 _ finC_31).2.1)).1.1 (by decide) (by decide)
            have t45_ : (qN S29_34 (qO S29_34 (qO S29_34 66 0) 6) : Int) = (qN S (qO S (qO S 66 0) 6) : Int) := by rw [o39_]; exact q10_.2.kL (j := 6) hw (hw.ref (hw.ptr ptrC_39) (hw.2.1 _ finC_31).2.1) (g.row (hw.ref (hw.ptr ptrC_39) (hw.2.1 _ finC_31).2.1)).1.2.2.2.2.1 (by decide) (by decide)
            have t46_ : (qN S29_34 (qO S29_34 (qO S29_34 66 0) 3) : Int) = (qN S (qO S (qO S 66 0) 3) : Int) := by rw [o39_]; exact q10_.2.kL (j := 3) hw (hw.ref (hw.ptr ptrC_39) (hw.2.1 _ finC_31).2.1) (g.row (hw.ref (hw.ptr ptrC_39) (hw.2.1 _ finC_31).2.1)).1.2.2.1 (by decide) (by decide)
            have t47_ : (qN S29_34 (qO S29_34 (qO S29_34 66 0) 5) : Int) = (qN S (qO S (qO S 66 0) 5) : Int) := by rw [o39_]; exact q10_.2.kL (j := 5) hw (hw.ref (hw.ptr ptrC_39) (hw.2.1 _ finC_31).2.1) (g.row (hw.ref (hw.ptr ptrC_39) (hw.2.1 _ finC_31).2.1)).1.2.2.2.1 (by decide) (by decide)
            have g : ShC B S29_34 := q10_.1.1
            refine ⟨fun c48_ => ?_, fun c48_ => ?_⟩
            · unfold w_X9_isDone_J141
              intro y13_
              exact ⟨g, trivial⟩
            · exact ⟨g, trivial⟩
          · unfold w_X9_isDone_J141
            intro y14_
            exact ⟨g, trivial⟩
        · refine ⟨fun c49_ => ?_, fun c49_ => ?_⟩
          · refine ⟨_, frX9_isFolded hw (sgX9_isFolded hw g (by have s51_ := (g.row (hw.ref (hw.ptr ptrC_39) (hw.2.1 _ finC_31).2.1)).2; have s52_ := g.smk; unfold SmK at s52_; have n1_ := rgI x2; have n2_ := rgI x1; have n4_ := rgI (qI S (qO S 66 0) 2); have n5_ := li_1k; have n5_ := t_subD (a := (qI S (qO S 66 0) 2)) (b := (1 : Int32)); have n6_ := rgI ((qI S (qO S 66 0) 2) - (1 : Int32)); omega)), ?_⟩
            intro r33_50 S34_50 q15_ y16_ y17_
            have o53_ : qO S34_50 66 0 = qO S 66 0 := qO_eq (q15_.2.kO (hw.2.1 _ finC_31).2.1 (by decide) (by decide))
            have t54_ : (qI S34_50 (qO S34_50 66 0) 4).toInt = (qI S (qO S 66 0) 4).toInt := by rw [o53_]; exact congrArg Int32.toInt (q15_.2.kI (j := 4) (hw.ref (hw.ptr ptrC_39) (hw.2.1 _ finC_31).2.1) (by decide) (by decide))
            have t55_ : (qN S34_50 (qO S34_50 (qO S34_50 66 0) 1) : Int) = (qN S (qO S (qO S 66 0) 1) : Int) := by rw [o53_]; exact q15_.2.kL (j := 1) hw (hw.ref (hw.ptr ptrC_39) (hw.2.1 _ finC_31).2.1) (g.row (hw.ref (hw.ptr ptrC_39) (hw.2.1 _ finC_31).2.1)).1.2.1 (by decide) (by decide)
            have t56_ : (qN S34_50 (qO S34_50 (qO S34_50 66 0) 8) : Int) = (qN S (qO S (qO S 66 0) 8) : Int) := by rw [o53_]; exact q15_.2.kL (j := 8) hw (hw.ref (hw.ptr ptrC_39) (hw.2.1 _ finC_31).2.1) (g.row (hw.ref (hw.ptr ptrC_39) (hw.2.1 _ finC_31).2.1)).1.2.2.2.2.2.2 (by decide) (by decide)
            have t57_ : (qN S34_50 (qO S34_50 (qO S34_50 66 0) 7) : Int) = (qN S (qO S (qO S 66 0) 7) : Int) := by rw [o53_]; exact q15_.2.kL (j := 7) hw (hw.ref (hw.ptr ptrC_39) (hw.2.1 _ finC_31).2.1) (g.row (hw.ref (hw.ptr ptrC_39) (hw.2.1 _ finC_31).2.1)).1.2.2.2.2.2.1 (by decide) (by decide)
            have t58_ : (qN S34_50 (qO S34_50 (qO S34_50 66 0) 0) : Int) = (qN S (qO S (qO S 66 0) 0) : Int) := by rw [o53_]; exact q15_.2.kL (j := 0) hw (hw.ref (hw.ptr ptrC_39) (hw.2.1 _ finC_31).2.1) (g.row (hw.ref (hw.ptr ptrC_39) (hw.2.1 _ finC_31).2.1)).1.1 (by decide) (by decide)
            have t59_ : (qN S34_50 (qO S34_50 (qO S34_50 66 0) 6) : Int) = (qN S (qO S (qO S 66 0) 6) : Int) := by rw [o53_]; exact q15_.2.kL (j := 6) hw (hw.ref (hw.ptr ptrC_39) (hw.2.1 _ finC_31).2.1) (g.row (hw.ref (hw.ptr ptrC_39) (hw.2.1 _ finC_31).2.1)).1.2.2.2.2.1 (by decide) (by decide)
            have t60_ : (qN S34_50 (qO S34_50 (qO S34_50 66 0) 3) : Int) = (qN S (qO S (qO S 66 0) 3) : Int) := by rw [o53_]; exact q15_.2.kL (j := 3) hw (hw.ref (hw.ptr ptrC_39) (hw.2.1 _ finC_31).2.1) (g.row (hw.ref (hw.ptr ptrC_39) (hw.2.1 _ finC_31).2.1)).1.2.2.1 (by decide) (by decide)
            have t61_ : (qN S34_50 (qO S34_50 (qO S34_50 66 0) 5) : Int) = (qN S (qO S (qO S 66 0) 5) : Int) := by rw [o53_]; exact q15_.2.kL (j := 5) hw (hw.ref (hw.ptr ptrC_39) (hw.2.1 _ finC_31).2.1) (g.row (hw.ref (hw.ptr ptrC_39) (hw.2.1 _ finC_31).2.1)).1.2.2.2.1 (by decide) (by decide)
            have g : ShC B S34_50 := q15_.1.1
            exact ⟨g, trivial⟩
          · refine ⟨fun c62_ => ?_, fun c62_ => ?_⟩
            · refine ⟨_, frX9_isUnaryFolded hw (sgX9_isUnaryFolded hw g (by have s64_ := (g.row (hw.ref (hw.ptr ptrC_39) (hw.2.1 _ finC_31).2.1)).2; have s65_ := g.smk; unfold SmK at s65_; have n1_ := rgI x2; have n2_ := rgI x1; have n4_ := rgI (qI S (qO S 66 0) 2); have n5_ := li_1k; have n5_ := t_subD (a := (qI S (qO S 66 0) 2)) (b := (1 : Int32)); have n6_ := rgI ((qI S (qO S 66 0) 2) - (1 : Int32)); omega)), ?_⟩
              intro r37_63 S38_63 q18_ y19_ y20_
              have o66_ : qO S38_63 66 0 = qO S 66 0 := qO_eq (q18_.2.kO (hw.2.1 _ finC_31).2.1 (by decide) (by decide))
              have t67_ : (qI S38_63 (qO S38_63 66 0) 4).toInt = (qI S (qO S 66 0) 4).toInt := by rw [o66_]; exact congrArg Int32.toInt (q18_.2.kI (j := 4) (hw.ref (hw.ptr ptrC_39) (hw.2.1 _ finC_31).2.1) (by decide) (by decide))
              have t68_ : (qN S38_63 (qO S38_63 (qO S38_63 66 0) 1) : Int) = (qN S (qO S (qO S 66 0) 1) : Int) := by rw [o66_]; exact q18_.2.kL (j := 1) hw (hw.ref (hw.ptr ptrC_39) (hw.2.1 _ finC_31).2.1) (g.row (hw.ref (hw.ptr ptrC_39) (hw.2.1 _ finC_31).2.1)).1.2.1 (by decide) (by decide)
              have t69_ : (qN S38_63 (qO S38_63 (qO S38_63 66 0) 8) : Int) = (qN S (qO S (qO S 66 0) 8) : Int) := by rw [o66_]; exact q18_.2.kL (j := 8) hw (hw.ref (hw.ptr ptrC_39) (hw.2.1 _ finC_31).2.1) (g.row (hw.ref (hw.ptr ptrC_39) (hw.2.1 _ finC_31).2.1)).1.2.2.2.2.2.2 (by decide) (by decide)
              have t70_ : (qN S38_63 (qO S38_63 (qO S38_63 66 0) 7) : Int) = (qN S (qO S (qO S 66 0) 7) : Int) := by rw [o66_]; exact q18_.2.kL (j := 7) hw (hw.ref (hw.ptr ptrC_39) (hw.2.1 _ finC_31).2.1) (g.row (hw.ref (hw.ptr ptrC_39) (hw.2.1 _ finC_31).2.1)).1.2.2.2.2.2.1 (by decide) (by decide)
              have t71_ : (qN S38_63 (qO S38_63 (qO S38_63 66 0) 0) : Int) = (qN S (qO S (qO S 66 0) 0) : Int) := by rw [o66_]; exact q18_.2.kL (j := 0) hw (hw.ref (hw.ptr ptrC_39) (hw.2.1 _ finC_31).2.1) (g.row (hw.ref (hw.ptr ptrC_39) (hw.2.1 _ finC_31).2.1)).1.1 (by decide) (by decide)
              have t72_ : (qN S38_63 (qO S38_63 (qO S38_63 66 0) 6) : Int) = (qN S (qO S (qO S 66 0) 6) : Int) := by rw [o66_]; exact q18_.2.kL (j := 6) hw (hw.ref (hw.ptr ptrC_39) (hw.2.1 _ finC_31).2.1) (g.row (hw.ref (hw.ptr ptrC_39) (hw.2.1 _ finC_31).2.1)).1.2.2.2.2.1 (by decide) (by decide)
              have t73_ : (qN S38_63 (qO S38_63 (qO S38_63 66 0) 3) : Int) = (qN S (qO S (qO S 66 0) 3) : Int) := by rw [o66_]; exact q18_.2.kL (j := 3) hw (hw.ref (hw.ptr ptrC_39) (hw.2.1 _ finC_31).2.1) (g.row (hw.ref (hw.ptr ptrC_39) (hw.2.1 _ finC_31).2.1)).1.2.2.1 (by decide) (by decide)
              have t74_ : (qN S38_63 (qO S38_63 (qO S38_63 66 0) 5) : Int) = (qN S (qO S (qO S 66 0) 5) : Int) := by rw [o66_]; exact q18_.2.kL (j := 5) hw (hw.ref (hw.ptr ptrC_39) (hw.2.1 _ finC_31).2.1) (g.row (hw.ref (hw.ptr ptrC_39) (hw.2.1 _ finC_31).2.1)).1.2.2.2.1 (by decide) (by decide)
              have g : ShC B S38_63 := q18_.1.1
              exact ⟨g, trivial⟩
            · refine ⟨fun c75_ => ?_, fun c75_ => ?_⟩
              · refine ⟨_, frX9_isJumpDecided hw (sgX9_isJumpDecided hw g (by have s77_ := (g.row (hw.ref (hw.ptr ptrC_39) (hw.2.1 _ finC_31).2.1)).2; have s78_ := g.smk; unfold SmK at s78_; have n1_ := rgI x2; have n2_ := rgI x1; have n4_ := rgI (qI S (qO S 66 0) 2); have n5_ := li_1k; have n5_ := t_subD (a := (qI S (qO S 66 0) 2)) (b := (1 : Int32)); have n6_ := rgI ((qI S (qO S 66 0) 2) - (1 : Int32)); omega)), ?_⟩
                intro r41_76 S42_76 q21_ y22_ y23_
                have o79_ : qO S42_76 66 0 = qO S 66 0 := qO_eq (q21_.2.kO (hw.2.1 _ finC_31).2.1 (by decide) (by decide))
                have t80_ : (qI S42_76 (qO S42_76 66 0) 4).toInt = (qI S (qO S 66 0) 4).toInt := by rw [o79_]; exact congrArg Int32.toInt (q21_.2.kI (j := 4) (hw.ref (hw.ptr ptrC_39) (hw.2.1 _ finC_31).2.1) (by decide) (by decide))
                have t81_ : (qN S42_76 (qO S42_76 (qO S42_76 66 0) 1) : Int) = (qN S (qO S (qO S 66 0) 1) : Int) := by rw [o79_]; exact q21_.2.kL (j := 1) hw (hw.ref (hw.ptr ptrC_39) (hw.2.1 _ finC_31).2.1) (g.row (hw.ref (hw.ptr ptrC_39) (hw.2.1 _ finC_31).2.1)).1.2.1 (by decide) (by decide)
                have t82_ : (qN S42_76 (qO S42_76 (qO S42_76 66 0) 8) : Int) = (qN S (qO S (qO S 66 0) 8) : Int) := by rw [o79_]; exact q21_.2.kL (j := 8) hw (hw.ref (hw.ptr ptrC_39) (hw.2.1 _ finC_31).2.1) (g.row (hw.ref (hw.ptr ptrC_39) (hw.2.1 _ finC_31).2.1)).1.2.2.2.2.2.2 (by decide) (by decide)
                have t83_ : (qN S42_76 (qO S42_76 (qO S42_76 66 0) 7) : Int) = (qN S (qO S (qO S 66 0) 7) : Int) := by rw [o79_]; exact q21_.2.kL (j := 7) hw (hw.ref (hw.ptr ptrC_39) (hw.2.1 _ finC_31).2.1) (g.row (hw.ref (hw.ptr ptrC_39) (hw.2.1 _ finC_31).2.1)).1.2.2.2.2.2.1 (by decide) (by decide)
                have t84_ : (qN S42_76 (qO S42_76 (qO S42_76 66 0) 0) : Int) = (qN S (qO S (qO S 66 0) 0) : Int) := by rw [o79_]; exact q21_.2.kL (j := 0) hw (hw.ref (hw.ptr ptrC_39) (hw.2.1 _ finC_31).2.1) (g.row (hw.ref (hw.ptr ptrC_39) (hw.2.1 _ finC_31).2.1)).1.1 (by decide) (by decide)
                have t85_ : (qN S42_76 (qO S42_76 (qO S42_76 66 0) 6) : Int) = (qN S (qO S (qO S 66 0) 6) : Int) := by rw [o79_]; exact q21_.2.kL (j := 6) hw (hw.ref (hw.ptr ptrC_39) (hw.2.1 _ finC_31).2.1) (g.row (hw.ref (hw.ptr ptrC_39) (hw.2.1 _ finC_31).2.1)).1.2.2.2.2.1 (by decide) (by decide)
                have t86_ : (qN S42_76 (qO S42_76 (qO S42_76 66 0) 3) : Int) = (qN S (qO S (qO S 66 0) 3) : Int) := by rw [o79_]; exact q21_.2.kL (j := 3) hw (hw.ref (hw.ptr ptrC_39) (hw.2.1 _ finC_31).2.1) (g.row (hw.ref (hw.ptr ptrC_39) (hw.2.1 _ finC_31).2.1)).1.2.2.1 (by decide) (by decide)
                have t87_ : (qN S42_76 (qO S42_76 (qO S42_76 66 0) 5) : Int) = (qN S (qO S (qO S 66 0) 5) : Int) := by rw [o79_]; exact q21_.2.kL (j := 5) hw (hw.ref (hw.ptr ptrC_39) (hw.2.1 _ finC_31).2.1) (g.row (hw.ref (hw.ptr ptrC_39) (hw.2.1 _ finC_31).2.1)).1.2.2.2.1 (by decide) (by decide)
                have g : ShC B S42_76 := q21_.1.1
                exact ⟨g, trivial⟩
              · refine ⟨fun c88_ => ?_, fun c88_ => ?_⟩
                · refine ⟨?_, ?_⟩
                  · exact (dd_X9_isWindow hw g (show 2 ≤ (2 : Int32).toInt by have s89_ := (g.row (hw.ref (hw.ptr ptrC_39) (hw.2.1 _ finC_31).2.1)).2; have s90_ := g.smk; unfold SmK at s90_; have n1_ := li_2k; have n2_ := rgI x2; have n3_ := rgI x1; have n5_ := rgI (qI S (qO S 66 0) 2); have n6_ := li_1k; have n6_ := t_subD (a := (qI S (qO S 66 0) 2)) (b := (1 : Int32)); have n7_ := rgI ((qI S (qO S 66 0) 2) - (1 : Int32)); omega) (show (2 : Int32).toInt ≤ 3 by have s91_ := (g.row (hw.ref (hw.ptr ptrC_39) (hw.2.1 _ finC_31).2.1)).2; have s92_ := g.smk; unfold SmK at s92_; have n1_ := li_2k; have n2_ := rgI x2; have n3_ := rgI x1; have n5_ := rgI (qI S (qO S 66 0) 2); have n6_ := li_1k; have n6_ := t_subD (a := (qI S (qO S 66 0) 2)) (b := (1 : Int32)); have n7_ := rgI ((qI S (qO S 66 0) 2) - (1 : Int32)); omega) (show x2.toInt ≤ 100000 by have s93_ := (g.row (hw.ref (hw.ptr ptrC_39) (hw.2.1 _ finC_31).2.1)).2; have s94_ := g.smk; unfold SmK at s94_; have n1_ := rgI x2; have n2_ := rgI x1; have n4_ := rgI (qI S (qO S 66 0) 2); have n5_ := li_1k; have n5_ := t_subD (a := (qI S (qO S 66 0) 2)) (b := (1 : Int32)); have n6_ := rgI ((qI S (qO S 66 0) 2) - (1 : Int32)); omega))
                  refine ⟨fun c95_ => ?_, fun c95_ => ?_⟩
                  · unfold w_X9_isDone_J191
                    intro y24_
                    exact ⟨g, trivial⟩
                  · refine ⟨?_, ?_⟩
                    · exact (dd_X9_isNeutral hw g)
                    refine ⟨fun c96_ => ?_, fun c96_ => ?_⟩
                    · unfold w_X9_isDone_J191
                      intro y25_
                      exact ⟨g, trivial⟩
                    · refine ⟨_, frX9_isDropped hw (sgX9_isDropped hw g (by have s98_ := (g.row (hw.ref (hw.ptr ptrC_39) (hw.2.1 _ finC_31).2.1)).2; have s99_ := g.smk; unfold SmK at s99_; have n1_ := li_2k; have n2_ := rgI x2; have n3_ := rgI x1; have n5_ := rgI (qI S (qO S 66 0) 2); have n6_ := li_1k; have n6_ := t_subD (a := (qI S (qO S 66 0) 2)) (b := (1 : Int32)); have n7_ := rgI ((qI S (qO S 66 0) 2) - (1 : Int32)); have n8_ := rgI (fX9_isWindow S x2 (2 : Int32)); have n9_ := rgI (fX9_isNeutral S x2); omega) (by have s100_ := (g.row (hw.ref (hw.ptr ptrC_39) (hw.2.1 _ finC_31).2.1)).2; have s101_ := g.smk; unfold SmK at s101_; have n1_ := rgI x2; have n2_ := rgI x1; have n4_ := rgI (qI S (qO S 66 0) 2); have n5_ := li_1k; have n5_ := t_subD (a := (qI S (qO S 66 0) 2)) (b := (1 : Int32)); have n6_ := rgI ((qI S (qO S 66 0) 2) - (1 : Int32)); have n7_ := rgI (fX9_isWindow S x2 (2 : Int32)); have n8_ := rgI (fX9_isNeutral S x2); omega)), ?_⟩
                      intro r53_97 S54_97 q26_ y27_ y28_
                      have o102_ : qO S54_97 66 0 = qO S 66 0 := qO_eq (q26_.2.kO (hw.2.1 _ finC_31).2.1 (by decide) (by decide))
                      have t103_ : (qI S54_97 (qO S54_97 66 0) 4).toInt = (qI S (qO S 66 0) 4).toInt := by rw [o102_]; exact congrArg Int32.toInt (q26_.2.kI (j := 4) (hw.ref (hw.ptr ptrC_39) (hw.2.1 _ finC_31).2.1) (by decide) (by decide))
                      have t104_ : (qN S54_97 (qO S54_97 (qO S54_97 66 0) 1) : Int) = (qN S (qO S (qO S 66 0) 1) : Int) := by rw [o102_]; exact q26_.2.kL (j := 1) hw (hw.ref (hw.ptr ptrC_39) (hw.2.1 _ finC_31).2.1) (g.row (hw.ref (hw.ptr ptrC_39) (hw.2.1 _ finC_31).2.1)).1.2.1 (by decide) (by decide)
                      have t105_ : (qN S54_97 (qO S54_97 (qO S54_97 66 0) 8) : Int) = (qN S (qO S (qO S 66 0) 8) : Int) := by rw [o102_]; exact q26_.2.kL (j := 8) hw (hw.ref (hw.ptr ptrC_39) (hw.2.1 _ finC_31).2.1) (g.row (hw.ref (hw.ptr ptrC_39) (hw.2.1 _ finC_31).2.1)).1.2.2.2.2.2.2 (by decide) (by decide)
                      have t106_ : (qN S54_97 (qO S54_97 (qO S54_97 66 0) 7) : Int) = (qN S (qO S (qO S 66 0) 7) : Int) := by rw [o102_]; exact q26_.2.kL (j := 7) hw (hw.ref (hw.ptr ptrC_39) (hw.2.1 _ finC_31).2.1) (g.row (hw.ref (hw.ptr ptrC_39) (hw.2.1 _ finC_31).2.1)).1.2.2.2.2.2.1 (by decide) (by decide)
                      have t107_ : (qN S54_97 (qO S54_97 (qO S54_97 66 0) 0) : Int) = (qN S (qO S (qO S 66 0) 0) : Int) := by rw [o102_]; exact q26_.2.kL (j := 0) hw (hw.ref (hw.ptr ptrC_39) (hw.2.1 _ finC_31).2.1) (g.row (hw.ref (hw.ptr ptrC_39) (hw.2.1 _ finC_31).2.1)).1.1 (by decide) (by decide)
                      have t108_ : (qN S54_97 (qO S54_97 (qO S54_97 66 0) 6) : Int) = (qN S (qO S (qO S 66 0) 6) : Int) := by rw [o102_]; exact q26_.2.kL (j := 6) hw (hw.ref (hw.ptr ptrC_39) (hw.2.1 _ finC_31).2.1) (g.row (hw.ref (hw.ptr ptrC_39) (hw.2.1 _ finC_31).2.1)).1.2.2.2.2.1 (by decide) (by decide)
                      have t109_ : (qN S54_97 (qO S54_97 (qO S54_97 66 0) 3) : Int) = (qN S (qO S (qO S 66 0) 3) : Int) := by rw [o102_]; exact q26_.2.kL (j := 3) hw (hw.ref (hw.ptr ptrC_39) (hw.2.1 _ finC_31).2.1) (g.row (hw.ref (hw.ptr ptrC_39) (hw.2.1 _ finC_31).2.1)).1.2.2.1 (by decide) (by decide)
                      have t110_ : (qN S54_97 (qO S54_97 (qO S54_97 66 0) 5) : Int) = (qN S (qO S (qO S 66 0) 5) : Int) := by rw [o102_]; exact q26_.2.kL (j := 5) hw (hw.ref (hw.ptr ptrC_39) (hw.2.1 _ finC_31).2.1) (g.row (hw.ref (hw.ptr ptrC_39) (hw.2.1 _ finC_31).2.1)).1.2.2.2.1 (by decide) (by decide)
                      have g : ShC B S54_97 := q26_.1.1
                      refine ⟨fun c111_ => ?_, fun c111_ => ?_⟩
                      · unfold w_X9_isDone_J191
                        intro y29_
                        exact ⟨g, trivial⟩
                      · exact ⟨g, trivial⟩
                · refine ⟨fun c112_ => ?_, fun c112_ => ?_⟩
                  · refine ⟨?_, ?_⟩
                    · exact (dd_X9_isWindow hw g (show 2 ≤ (2 : Int32).toInt by have s113_ := (g.row (hw.ref (hw.ptr ptrC_39) (hw.2.1 _ finC_31).2.1)).2; have s114_ := g.smk; unfold SmK at s114_; have n1_ := li_2k; have n2_ := rgI x2; have n3_ := rgI x1; have n5_ := rgI (qI S (qO S 66 0) 2); have n6_ := li_1k; have n6_ := t_subD (a := (qI S (qO S 66 0) 2)) (b := (1 : Int32)); have n7_ := rgI ((qI S (qO S 66 0) 2) - (1 : Int32)); omega) (show (2 : Int32).toInt ≤ 3 by have s115_ := (g.row (hw.ref (hw.ptr ptrC_39) (hw.2.1 _ finC_31).2.1)).2; have s116_ := g.smk; unfold SmK at s116_; have n1_ := li_2k; have n2_ := rgI x2; have n3_ := rgI x1; have n5_ := rgI (qI S (qO S 66 0) 2); have n6_ := li_1k; have n6_ := t_subD (a := (qI S (qO S 66 0) 2)) (b := (1 : Int32)); have n7_ := rgI ((qI S (qO S 66 0) 2) - (1 : Int32)); omega) (show x2.toInt ≤ 100000 by have s117_ := (g.row (hw.ref (hw.ptr ptrC_39) (hw.2.1 _ finC_31).2.1)).2; have s118_ := g.smk; unfold SmK at s118_; have n1_ := rgI x2; have n2_ := rgI x1; have n4_ := rgI (qI S (qO S 66 0) 2); have n5_ := li_1k; have n5_ := t_subD (a := (qI S (qO S 66 0) 2)) (b := (1 : Int32)); have n6_ := rgI ((qI S (qO S 66 0) 2) - (1 : Int32)); omega))
                    refine ⟨fun c119_ => ?_, fun c119_ => ?_⟩
                    · unfold w_X9_isDone_J223
                      intro y30_
                      exact ⟨g, trivial⟩
                    · refine ⟨?_, ?_⟩
                      · exact (dd_X9_isPopped hw g)
                      refine ⟨fun c120_ => ?_, fun c120_ => ?_⟩
                      · unfold w_X9_isDone_J223
                        intro y31_
                        exact ⟨g, trivial⟩
                      · refine ⟨_, frX9_isDropped hw (sgX9_isDropped hw g (by have s122_ := (g.row (hw.ref (hw.ptr ptrC_39) (hw.2.1 _ finC_31).2.1)).2; have s123_ := g.smk; unfold SmK at s123_; have n1_ := li_2k; have n2_ := rgI x2; have n3_ := rgI x1; have n5_ := rgI (qI S (qO S 66 0) 2); have n6_ := li_1k; have n6_ := t_subD (a := (qI S (qO S 66 0) 2)) (b := (1 : Int32)); have n7_ := rgI ((qI S (qO S 66 0) 2) - (1 : Int32)); have n8_ := rgI (fX9_isWindow S x2 (2 : Int32)); have n9_ := rgI (fX9_isPopped S x2); omega) (by have s124_ := (g.row (hw.ref (hw.ptr ptrC_39) (hw.2.1 _ finC_31).2.1)).2; have s125_ := g.smk; unfold SmK at s125_; have n1_ := rgI x2; have n2_ := rgI x1; have n4_ := rgI (qI S (qO S 66 0) 2); have n5_ := li_1k; have n5_ := t_subD (a := (qI S (qO S 66 0) 2)) (b := (1 : Int32)); have n6_ := rgI ((qI S (qO S 66 0) 2) - (1 : Int32)); have n7_ := rgI (fX9_isWindow S x2 (2 : Int32)); have n8_ := rgI (fX9_isPopped S x2); omega)), ?_⟩
                        intro r66_121 S67_121 q32_ y33_ y34_
                        have o126_ : qO S67_121 66 0 = qO S 66 0 := qO_eq (q32_.2.kO (hw.2.1 _ finC_31).2.1 (by decide) (by decide))
                        have t127_ : (qI S67_121 (qO S67_121 66 0) 4).toInt = (qI S (qO S 66 0) 4).toInt := by rw [o126_]; exact congrArg Int32.toInt (q32_.2.kI (j := 4) (hw.ref (hw.ptr ptrC_39) (hw.2.1 _ finC_31).2.1) (by decide) (by decide))
                        have t128_ : (qN S67_121 (qO S67_121 (qO S67_121 66 0) 1) : Int) = (qN S (qO S (qO S 66 0) 1) : Int) := by rw [o126_]; exact q32_.2.kL (j := 1) hw (hw.ref (hw.ptr ptrC_39) (hw.2.1 _ finC_31).2.1) (g.row (hw.ref (hw.ptr ptrC_39) (hw.2.1 _ finC_31).2.1)).1.2.1 (by decide) (by decide)
                        have t129_ : (qN S67_121 (qO S67_121 (qO S67_121 66 0) 8) : Int) = (qN S (qO S (qO S 66 0) 8) : Int) := by rw [o126_]; exact q32_.2.kL (j := 8) hw (hw.ref (hw.ptr ptrC_39) (hw.2.1 _ finC_31).2.1) (g.row (hw.ref (hw.ptr ptrC_39) (hw.2.1 _ finC_31).2.1)).1.2.2.2.2.2.2 (by decide) (by decide)
                        have t130_ : (qN S67_121 (qO S67_121 (qO S67_121 66 0) 7) : Int) = (qN S (qO S (qO S 66 0) 7) : Int) := by rw [o126_]; exact q32_.2.kL (j := 7) hw (hw.ref (hw.ptr ptrC_39) (hw.2.1 _ finC_31).2.1) (g.row (hw.ref (hw.ptr ptrC_39) (hw.2.1 _ finC_31).2.1)).1.2.2.2.2.2.1 (by decide) (by decide)
                        have t131_ : (qN S67_121 (qO S67_121 (qO S67_121 66 0) 0) : Int) = (qN S (qO S (qO S 66 0) 0) : Int) := by rw [o126_]; exact q32_.2.kL (j := 0) hw (hw.ref (hw.ptr ptrC_39) (hw.2.1 _ finC_31).2.1) (g.row (hw.ref (hw.ptr ptrC_39) (hw.2.1 _ finC_31).2.1)).1.1 (by decide) (by decide)
                        have t132_ : (qN S67_121 (qO S67_121 (qO S67_121 66 0) 6) : Int) = (qN S (qO S (qO S 66 0) 6) : Int) := by rw [o126_]; exact q32_.2.kL (j := 6) hw (hw.ref (hw.ptr ptrC_39) (hw.2.1 _ finC_31).2.1) (g.row (hw.ref (hw.ptr ptrC_39) (hw.2.1 _ finC_31).2.1)).1.2.2.2.2.1 (by decide) (by decide)
                        have t133_ : (qN S67_121 (qO S67_121 (qO S67_121 66 0) 3) : Int) = (qN S (qO S (qO S 66 0) 3) : Int) := by rw [o126_]; exact q32_.2.kL (j := 3) hw (hw.ref (hw.ptr ptrC_39) (hw.2.1 _ finC_31).2.1) (g.row (hw.ref (hw.ptr ptrC_39) (hw.2.1 _ finC_31).2.1)).1.2.2.1 (by decide) (by decide)
                        have t134_ : (qN S67_121 (qO S67_121 (qO S67_121 66 0) 5) : Int) = (qN S (qO S (qO S 66 0) 5) : Int) := by rw [o126_]; exact q32_.2.kL (j := 5) hw (hw.ref (hw.ptr ptrC_39) (hw.2.1 _ finC_31).2.1) (g.row (hw.ref (hw.ptr ptrC_39) (hw.2.1 _ finC_31).2.1)).1.2.2.2.1 (by decide) (by decide)
                        have g : ShC B S67_121 := q32_.1.1
                        refine ⟨fun c135_ => ?_, fun c135_ => ?_⟩
                        · unfold w_X9_isDone_J223
                          intro y35_
                          exact ⟨g, trivial⟩
                        · exact ⟨g, trivial⟩
                  · refine ⟨fun c136_ => ?_, fun c136_ => ?_⟩
                    · refine ⟨?_, ?_⟩
                      · exact (dd_X9_isWindow hw g (show 2 ≤ (2 : Int32).toInt by have s137_ := (g.row (hw.ref (hw.ptr ptrC_39) (hw.2.1 _ finC_31).2.1)).2; have s138_ := g.smk; unfold SmK at s138_; have n1_ := li_2k; have n2_ := rgI x2; have n3_ := rgI x1; have n5_ := rgI (qI S (qO S 66 0) 2); have n6_ := li_1k; have n6_ := t_subD (a := (qI S (qO S 66 0) 2)) (b := (1 : Int32)); have n7_ := rgI ((qI S (qO S 66 0) 2) - (1 : Int32)); omega) (show (2 : Int32).toInt ≤ 3 by have s139_ := (g.row (hw.ref (hw.ptr ptrC_39) (hw.2.1 _ finC_31).2.1)).2; have s140_ := g.smk; unfold SmK at s140_; have n1_ := li_2k; have n2_ := rgI x2; have n3_ := rgI x1; have n5_ := rgI (qI S (qO S 66 0) 2); have n6_ := li_1k; have n6_ := t_subD (a := (qI S (qO S 66 0) 2)) (b := (1 : Int32)); have n7_ := rgI ((qI S (qO S 66 0) 2) - (1 : Int32)); omega) (show x2.toInt ≤ 100000 by have s141_ := (g.row (hw.ref (hw.ptr ptrC_39) (hw.2.1 _ finC_31).2.1)).2; have s142_ := g.smk; unfold SmK at s142_; have n1_ := rgI x2; have n2_ := rgI x1; have n4_ := rgI (qI S (qO S 66 0) 2); have n5_ := li_1k; have n5_ := t_subD (a := (qI S (qO S 66 0) 2)) (b := (1 : Int32)); have n6_ := rgI ((qI S (qO S 66 0) 2) - (1 : Int32)); omega))
                      refine ⟨fun c143_ => ?_, fun c143_ => ?_⟩
                      · unfold w_X9_isDone_J255
                        intro y36_
                        exact ⟨g, trivial⟩
                      · refine ⟨_, frX9_isPassedOn hw (sgX9_isPassedOn hw g), ?_⟩
                        intro r75_144 S76_144 q37_ y38_ y39_
                        have o145_ : qO S76_144 66 0 = qO S 66 0 := qO_eq (q37_.2.kO (hw.2.1 _ finC_31).2.1 (by decide) (by decide))
                        have t146_ : (qI S76_144 (qO S76_144 66 0) 2).toInt = (qI S (qO S 66 0) 2).toInt := by rw [o145_]; exact congrArg Int32.toInt (q37_.2.kI (j := 2) (hw.ref (hw.ptr ptrC_39) (hw.2.1 _ finC_31).2.1) (by decide) (by decide))
                        have t147_ : (qI S76_144 (qO S76_144 66 0) 9).toInt = (qI S (qO S 66 0) 9).toInt := by rw [o145_]; exact congrArg Int32.toInt (q37_.2.kI (j := 9) (hw.ref (hw.ptr ptrC_39) (hw.2.1 _ finC_31).2.1) (by decide) (by decide))
                        have t148_ : (qI S76_144 (qO S76_144 66 0) 4).toInt = (qI S (qO S 66 0) 4).toInt := by rw [o145_]; exact congrArg Int32.toInt (q37_.2.kI (j := 4) (hw.ref (hw.ptr ptrC_39) (hw.2.1 _ finC_31).2.1) (by decide) (by decide))
                        have t149_ : (qN S76_144 (qO S76_144 (qO S76_144 66 0) 1) : Int) = (qN S (qO S (qO S 66 0) 1) : Int) := by rw [o145_]; exact q37_.2.kL (j := 1) hw (hw.ref (hw.ptr ptrC_39) (hw.2.1 _ finC_31).2.1) (g.row (hw.ref (hw.ptr ptrC_39) (hw.2.1 _ finC_31).2.1)).1.2.1 (by decide) (by decide)
                        have t150_ : (qN S76_144 (qO S76_144 (qO S76_144 66 0) 8) : Int) = (qN S (qO S (qO S 66 0) 8) : Int) := by rw [o145_]; exact q37_.2.kL (j := 8) hw (hw.ref (hw.ptr ptrC_39) (hw.2.1 _ finC_31).2.1) (g.row (hw.ref (hw.ptr ptrC_39) (hw.2.1 _ finC_31).2.1)).1.2.2.2.2.2.2 (by decide) (by decide)
                        have t151_ : (qN S76_144 (qO S76_144 (qO S76_144 66 0) 7) : Int) = (qN S (qO S (qO S 66 0) 7) : Int) := by rw [o145_]; exact q37_.2.kL (j := 7) hw (hw.ref (hw.ptr ptrC_39) (hw.2.1 _ finC_31).2.1) (g.row (hw.ref (hw.ptr ptrC_39) (hw.2.1 _ finC_31).2.1)).1.2.2.2.2.2.1 (by decide) (by decide)
                        have t152_ : (qN S76_144 (qO S76_144 (qO S76_144 66 0) 0) : Int) = (qN S (qO S (qO S 66 0) 0) : Int) := by rw [o145_]; exact q37_.2.kL (j := 0) hw (hw.ref (hw.ptr ptrC_39) (hw.2.1 _ finC_31).2.1) (g.row (hw.ref (hw.ptr ptrC_39) (hw.2.1 _ finC_31).2.1)).1.1 (by decide) (by decide)
                        have t153_ : (qN S76_144 (qO S76_144 (qO S76_144 66 0) 6) : Int) = (qN S (qO S (qO S 66 0) 6) : Int) := by rw [o145_]; exact q37_.2.kL (j := 6) hw (hw.ref (hw.ptr ptrC_39) (hw.2.1 _ finC_31).2.1) (g.row (hw.ref (hw.ptr ptrC_39) (hw.2.1 _ finC_31).2.1)).1.2.2.2.2.1 (by decide) (by decide)
                        have t154_ : (qN S76_144 (qO S76_144 (qO S76_144 66 0) 3) : Int) = (qN S (qO S (qO S 66 0) 3) : Int) := by rw [o145_]; exact q37_.2.kL (j := 3) hw (hw.ref (hw.ptr ptrC_39) (hw.2.1 _ finC_31).2.1) (g.row (hw.ref (hw.ptr ptrC_39) (hw.2.1 _ finC_31).2.1)).1.2.2.1 (by decide) (by decide)
                        have t155_ : (qN S76_144 (qO S76_144 (qO S76_144 66 0) 5) : Int) = (qN S (qO S (qO S 66 0) 5) : Int) := by rw [o145_]; exact q37_.2.kL (j := 5) hw (hw.ref (hw.ptr ptrC_39) (hw.2.1 _ finC_31).2.1) (g.row (hw.ref (hw.ptr ptrC_39) (hw.2.1 _ finC_31).2.1)).1.2.2.2.1 (by decide) (by decide)
                        have g : ShC B S76_144 := q37_.1.1
                        refine ⟨fun c156_ => ?_, fun c156_ => ?_⟩
                        · unfold w_X9_isDone_J255
                          intro y40_
                          exact ⟨g, trivial⟩
                        · refine ⟨_, frX9_isDropped y38_ (sgX9_isDropped y38_ g (by have s158_ := (g.row (y38_.ref (y38_.ptr ptrC_39) (y38_.2.1 _ finC_31).2.1)).2; have s159_ := g.smk; unfold SmK at s159_; have n1_ := li_2k; have n2_ := rgI x2; have n3_ := rgI x1; have n5_ := rgI (qI S (qO S 66 0) 2); have n6_ := li_1k; have n6_ := t_subD (a := (qI S (qO S 66 0) 2)) (b := (1 : Int32)); have n7_ := rgI ((qI S (qO S 66 0) 2) - (1 : Int32)); have n8_ := rgI (fX9_isWindow S x2 (2 : Int32)); have n9_ := rgI r75_144; omega) (by have s160_ := (g.row (y38_.ref (y38_.ptr ptrC_39) (y38_.2.1 _ finC_31).2.1)).2; have s161_ := g.smk; unfold SmK at s161_; have n1_ := rgI x2; have n2_ := rgI x1; have n4_ := rgI (qI S (qO S 66 0) 2); have n5_ := li_1k; have n5_ := t_subD (a := (qI S (qO S 66 0) 2)) (b := (1 : Int32)); have n6_ := rgI ((qI S (qO S 66 0) 2) - (1 : Int32)); have n7_ := rgI (fX9_isWindow S x2 (2 : Int32)); have n8_ := rgI r75_144; omega)), ?_⟩
                          intro r80_157 S81_157 q41_ y42_ y43_
                          have o162_ : qO S81_157 66 0 = qO S76_144 66 0 := qO_eq (q41_.2.kO (y38_.2.1 _ finC_31).2.1 (by decide) (by decide))
                          have t163_ : (qI S81_157 (qO S81_157 66 0) 4).toInt = (qI S76_144 (qO S76_144 66 0) 4).toInt := by rw [o162_]; exact congrArg Int32.toInt (q41_.2.kI (j := 4) (y38_.ref (y38_.ptr ptrC_39) (y38_.2.1 _ finC_31).2.1) (by decide) (by decide))
                          have t164_ : (qN S81_157 (qO S81_157 (qO S81_157 66 0) 1) : Int) = (qN S76_144 (qO S76_144 (qO S76_144 66 0) 1) : Int) := by rw [o162_]; exact q41_.2.kL (j := 1) y38_ (y38_.ref (y38_.ptr ptrC_39) (y38_.2.1 _ finC_31).2.1) (g.row (y38_.ref (y38_.ptr ptrC_39) (y38_.2.1 _ finC_31).2.1)).1.2.1 (by decide) (by decide)
                          have t165_ : (qN S81_157 (qO S81_157 (qO S81_157 66 0) 8) : Int) = (qN S76_144 (qO S76_144 (qO S76_144 66 0) 8) : Int) := by rw [o162_]; exact q41_.2.kL (j := 8) y38_ (y38_.ref (y38_.ptr ptrC_39) (y38_.2.1 _ finC_31).2.1) (g.row (y38_.ref (y38_.ptr ptrC_39) (y38_.2.1 _ finC_31).2.1)).1.2.2.2.2.2.2 (by decide) (by decide)
                          have t166_ : (qN S81_157 (qO S81_157 (qO S81_157 66 0) 7) : Int) = (qN S76_144 (qO S76_144 (qO S76_144 66 0) 7) : Int) := by rw [o162_]; exact q41_.2.kL (j := 7) y38_ (y38_.ref (y38_.ptr ptrC_39) (y38_.2.1 _ finC_31).2.1) (g.row (y38_.ref (y38_.ptr ptrC_39) (y38_.2.1 _ finC_31).2.1)).1.2.2.2.2.2.1 (by decide) (by decide)
                          have t167_ : (qN S81_157 (qO S81_157 (qO S81_157 66 0) 0) : Int) = (qN S76_144 (qO S76_144 (qO S76_144 66 0) 0) : Int) := by rw [o162_]; exact q41_.2.kL (j := 0) y38_ (y38_.ref (y38_.ptr ptrC_39) (y38_.2.1 _ finC_31).2.1) (g.row (y38_.ref (y38_.ptr ptrC_39) (y38_.2.1 _ finC_31).2.1)).1.1 (by decide) (by decide)
                          have t168_ : (qN S81_157 (qO S81_157 (qO S81_157 66 0) 6) : Int) = (qN S76_144 (qO S76_144 (qO S76_144 66 0) 6) : Int) := by rw [o162_]; exact q41_.2.kL (j := 6) y38_ (y38_.ref (y38_.ptr ptrC_39) (y38_.2.1 _ finC_31).2.1) (g.row (y38_.ref (y38_.ptr ptrC_39) (y38_.2.1 _ finC_31).2.1)).1.2.2.2.2.1 (by decide) (by decide)
                          have t169_ : (qN S81_157 (qO S81_157 (qO S81_157 66 0) 3) : Int) = (qN S76_144 (qO S76_144 (qO S76_144 66 0) 3) : Int) := by rw [o162_]; exact q41_.2.kL (j := 3) y38_ (y38_.ref (y38_.ptr ptrC_39) (y38_.2.1 _ finC_31).2.1) (g.row (y38_.ref (y38_.ptr ptrC_39) (y38_.2.1 _ finC_31).2.1)).1.2.2.1 (by decide) (by decide)
                          have t170_ : (qN S81_157 (qO S81_157 (qO S81_157 66 0) 5) : Int) = (qN S76_144 (qO S76_144 (qO S76_144 66 0) 5) : Int) := by rw [o162_]; exact q41_.2.kL (j := 5) y38_ (y38_.ref (y38_.ptr ptrC_39) (y38_.2.1 _ finC_31).2.1) (g.row (y38_.ref (y38_.ptr ptrC_39) (y38_.2.1 _ finC_31).2.1)).1.2.2.2.1 (by decide) (by decide)
                          have g : ShC B S81_157 := q41_.1.1
                          refine ⟨fun c171_ => ?_, fun c171_ => ?_⟩
                          · unfold w_X9_isDone_J255
                            intro y44_
                            exact ⟨g, trivial⟩
                          · exact ⟨g, trivial⟩
                    · refine ⟨_, frX9_isDeadStoreDone hw (sgX9_isDeadStoreDone hw g (by have s173_ := (g.row (hw.ref (hw.ptr ptrC_39) (hw.2.1 _ finC_31).2.1)).2; have s174_ := g.smk; unfold SmK at s174_; have n1_ := rgI x2; have n2_ := rgI x1; have n4_ := rgI (qI S (qO S 66 0) 2); have n5_ := li_1k; have n5_ := t_subD (a := (qI S (qO S 66 0) 2)) (b := (1 : Int32)); have n6_ := rgI ((qI S (qO S 66 0) 2) - (1 : Int32)); omega)), ?_⟩
                      intro r85_172 S86_172 q45_ y46_ y47_
                      have o175_ : qO S86_172 66 0 = qO S 66 0 := qO_eq (q45_.2.kO (hw.2.1 _ finC_31).2.1 (by decide) (by decide))
                      have t176_ : (qI S86_172 (qO S86_172 66 0) 4).toInt = (qI S (qO S 66 0) 4).toInt := by rw [o175_]; exact congrArg Int32.toInt (q45_.2.kI (j := 4) (hw.ref (hw.ptr ptrC_39) (hw.2.1 _ finC_31).2.1) (by decide) (by decide))
                      have t177_ : (qN S86_172 (qO S86_172 (qO S86_172 66 0) 1) : Int) = (qN S (qO S (qO S 66 0) 1) : Int) := by rw [o175_]; exact q45_.2.kL (j := 1) hw (hw.ref (hw.ptr ptrC_39) (hw.2.1 _ finC_31).2.1) (g.row (hw.ref (hw.ptr ptrC_39) (hw.2.1 _ finC_31).2.1)).1.2.1 (by decide) (by decide)
                      have t178_ : (qN S86_172 (qO S86_172 (qO S86_172 66 0) 8) : Int) = (qN S (qO S (qO S 66 0) 8) : Int) := by rw [o175_]; exact q45_.2.kL (j := 8) hw (hw.ref (hw.ptr ptrC_39) (hw.2.1 _ finC_31).2.1) (g.row (hw.ref (hw.ptr ptrC_39) (hw.2.1 _ finC_31).2.1)).1.2.2.2.2.2.2 (by decide) (by decide)
                      have t179_ : (qN S86_172 (qO S86_172 (qO S86_172 66 0) 7) : Int) = (qN S (qO S (qO S 66 0) 7) : Int) := by rw [o175_]; exact q45_.2.kL (j := 7) hw (hw.ref (hw.ptr ptrC_39) (hw.2.1 _ finC_31).2.1) (g.row (hw.ref (hw.ptr ptrC_39) (hw.2.1 _ finC_31).2.1)).1.2.2.2.2.2.1 (by decide) (by decide)
                      have t180_ : (qN S86_172 (qO S86_172 (qO S86_172 66 0) 0) : Int) = (qN S (qO S (qO S 66 0) 0) : Int) := by rw [o175_]; exact q45_.2.kL (j := 0) hw (hw.ref (hw.ptr ptrC_39) (hw.2.1 _ finC_31).2.1) (g.row (hw.ref (hw.ptr ptrC_39) (hw.2.1 _ finC_31).2.1)).1.1 (by decide) (by decide)
                      have t181_ : (qN S86_172 (qO S86_172 (qO S86_172 66 0) 6) : Int) = (qN S (qO S (qO S 66 0) 6) : Int) := by rw [o175_]; exact q45_.2.kL (j := 6) hw (hw.ref (hw.ptr ptrC_39) (hw.2.1 _ finC_31).2.1) (g.row (hw.ref (hw.ptr ptrC_39) (hw.2.1 _ finC_31).2.1)).1.2.2.2.2.1 (by decide) (by decide)
                      have t182_ : (qN S86_172 (qO S86_172 (qO S86_172 66 0) 3) : Int) = (qN S (qO S (qO S 66 0) 3) : Int) := by rw [o175_]; exact q45_.2.kL (j := 3) hw (hw.ref (hw.ptr ptrC_39) (hw.2.1 _ finC_31).2.1) (g.row (hw.ref (hw.ptr ptrC_39) (hw.2.1 _ finC_31).2.1)).1.2.2.1 (by decide) (by decide)
                      have t183_ : (qN S86_172 (qO S86_172 (qO S86_172 66 0) 5) : Int) = (qN S (qO S (qO S 66 0) 5) : Int) := by rw [o175_]; exact q45_.2.kL (j := 5) hw (hw.ref (hw.ptr ptrC_39) (hw.2.1 _ finC_31).2.1) (g.row (hw.ref (hw.ptr ptrC_39) (hw.2.1 _ finC_31).2.1)).1.2.2.2.1 (by decide) (by decide)
                      have g : ShC B S86_172 := q45_.1.1
                      exact ⟨g, trivial⟩
    · exact ⟨g, trivial⟩
