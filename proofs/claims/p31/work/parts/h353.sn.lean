set_option maxRecDepth 100000 in
theorem sg_X9_findLive_L34 {B : Nat × Nat} {k12 : MS → Int32 → Int32 → Prop} {N12 : Nat} (hk12 : ∀ (U12 : MS) (v12_1 : Int32) (v12_2 : Int32), ShC B U12 → 0 ≤ v12_2.toInt → 2147483648 - v12_2.toInt < N12 → k12 U12 v12_1 v12_2) : ∀ (n : Nat) {U34 : MS} {v34_1 : Int32} {v34_2 : Int32} {v34_3 : Int32}, ShC B U34 → v34_2.toInt < 2147483647 → 2147483648 - v34_2.toInt ≤ N12 → 0 ≤ v34_2.toInt → v34_3.toInt < (qI U34 (qO U34 66 0) 2).toInt → -1 ≤ v34_3.toInt → v34_3.toInt + 2147483649 < n → w_X9_findLive_L34 (fun u => ShC B u ∧ (True)) k12 n U34 v34_1 v34_2 v34_3 := by
  intro n
  induction n with
  | zero => intro U34 v34_1 v34_2 v34_3 g j0_ j1_ j2_ j3_ j4_ hm_; exfalso; have := rgI v34_1; have := rgI v34_2; have := rgI v34_3; omega
  | succ n ih34 =>
    intro U34 v34_1 v34_2 v34_3 g j0_ j1_ j2_ j3_ j4_ hm_
    unfold w_X9_findLive_L34
    intro y1_
    refine ⟨fun c0_ => ?_, fun c0_ => ?_⟩
    · intro a11_1 ea11_1 
      have ga11_1 := congrArg Int32.toInt ea11_1
      refine hk12 _ _ _ g ?_ ?_
      · have s2_ := (g.row (y1_.ref (y1_.ptr ptrC_39) (y1_.2.1 _ finC_31).2.1)).2
        have s3_ := y1_.len9 (y1_.ref (y1_.ptr ptrC_37) (y1_.2.1 _ finC_31).2.1) (by decide)
        have s4_ := g.smk
        unfold SmK at s4_
        have n1_ := rgI a11_1
        have n2_ := rgI v34_2
        have n3_ := rgI v34_3
        have n4_ := rgI (qI U34 (qO U34 66 0) 2)
        have n6_ := lo_1k
        have n6_ := t_addD (a := v34_2) (b := Int32.ofInt 1)
        have n7_ := rgI (v34_2 + Int32.ofInt 1)
        omega
      · have s5_ := (g.row (y1_.ref (y1_.ptr ptrC_39) (y1_.2.1 _ finC_31).2.1)).2
        have s6_ := y1_.len9 (y1_.ref (y1_.ptr ptrC_37) (y1_.2.1 _ finC_31).2.1) (by decide)
        have s7_ := g.smk
        unfold SmK at s7_
        have n1_ := rgI a11_1
        have n2_ := rgI v34_2
        have n3_ := rgI v34_3
        have n4_ := rgI (qI U34 (qO U34 66 0) 2)
        have n6_ := lo_1k
        have n6_ := t_addD (a := v34_2) (b := Int32.ofInt 1)
        have n7_ := rgI (v34_2 + Int32.ofInt 1)
        omega
    · refine ⟨_, frX9_liveBefore y1_ (sgX9_liveBefore y1_ g), ?_⟩
      intro r13_8 S14_8 q2_ y3_ y4_
      have o9_ : qO S14_8 66 0 = qO U34 66 0 := qO_eq (q2_.2.kO (y1_.2.1 _ finC_31).2.1 (by decide) (by decide))
      have t10_ : (qI S14_8 (qO S14_8 66 0) 2).toInt = (qI U34 (qO U34 66 0) 2).toInt := by rw [o9_]; exact congrArg Int32.toInt (q2_.2.kI (j := 2) (y1_.ref (y1_.ptr ptrC_39) (y1_.2.1 _ finC_31).2.1) (by decide) (by decide))
      have t11_ : (qI S14_8 (qO S14_8 66 0) 9).toInt = (qI U34 (qO U34 66 0) 9).toInt := by rw [o9_]; exact congrArg Int32.toInt (q2_.2.kI (j := 9) (y1_.ref (y1_.ptr ptrC_39) (y1_.2.1 _ finC_31).2.1) (by decide) (by decide))
      have t12_ : (qI S14_8 (qO S14_8 66 0) 4).toInt = (qI U34 (qO U34 66 0) 4).toInt := by rw [o9_]; exact congrArg Int32.toInt (q2_.2.kI (j := 4) (y1_.ref (y1_.ptr ptrC_39) (y1_.2.1 _ finC_31).2.1) (by decide) (by decide))
      have t13_ : (qN S14_8 (qO S14_8 (qO S14_8 66 0) 1) : Int) = (qN U34 (qO U34 (qO U34 66 0) 1) : Int) := by rw [o9_]; exact q2_.2.kL (j := 1) y1_ (y1_.ref (y1_.ptr ptrC_39) (y1_.2.1 _ finC_31).2.1) (g.row (y1_.ref (y1_.ptr ptrC_39) (y1_.2.1 _ finC_31).2.1)).1.2.1 (by decide) (by decide)
      have t14_ : (qN S14_8 (qO S14_8 (qO S14_8 66 0) 8) : Int) = (qN U34 (qO U34 (qO U34 66 0) 8) : Int) := by rw [o9_]; exact q2_.2.kL (j := 8) y1_ (y1_.ref (y1_.ptr ptrC_39) (y1_.2.1 _ finC_31).2.1) (g.row (y1_.ref (y1_.ptr ptrC_39) (y1_.2.1 _ finC_31).2.1)).1.2.2.2.2.2.2 (by decide) (by decide)
      have t15_ : (qN S14_8 (qO S14_8 (qO S14_8 66 0) 7) : Int) = (qN U34 (qO U34 (qO U34 66 0) 7) : Int) := by rw [o9_]; exact q2_.2.kL (j := 7) y1_ (y1_.ref (y1_.ptr ptrC_39) (y1_.2.1 _ finC_31).2.1) (g.row (y1_.ref (y1_.ptr ptrC_39) (y1_.2.1 _ finC_31).2.1)).1.2.2.2.2.2.1 (by decide) (by decide)
      have t16_ : (qN S14_8 (qO S14_8 (qO S14_8 66 0) 0) : Int) = (qN U34 (qO U34 (qO U34 66 0) 0) : Int) := by rw [o9_]; exact q2_.2.kL (j := 0) y1_ (y1_.ref (y1_.ptr ptrC_39) (y1_.2.1 _ finC_31).2.1) (g.row (y1_.ref (y1_.ptr ptrC_39) (y1_.2.1 _ finC_31).2.1)).1.1 (by decide) (by decide)
      have t17_ : (qN S14_8 (qO S14_8 (qO S14_8 66 0) 6) : Int) = (qN U34 (qO U34 (qO U34 66 0) 6) : Int) := by rw [o9_]; exact q2_.2.kL (j := 6) y1_ (y1_.ref (y1_.ptr ptrC_39) (y1_.2.1 _ finC_31).2.1) (g.row (y1_.ref (y1_.ptr ptrC_39) (y1_.2.1 _ finC_31).2.1)).1.2.2.2.2.1 (by decide) (by decide)
      have t18_ : (qN S14_8 (qO S14_8 (qO S14_8 66 0) 3) : Int) = (qN U34 (qO U34 (qO U34 66 0) 3) : Int) := by rw [o9_]; exact q2_.2.kL (j := 3) y1_ (y1_.ref (y1_.ptr ptrC_39) (y1_.2.1 _ finC_31).2.1) (g.row (y1_.ref (y1_.ptr ptrC_39) (y1_.2.1 _ finC_31).2.1)).1.2.2.1 (by decide) (by decide)
      have t19_ : (qN S14_8 (qO S14_8 (qO S14_8 66 0) 5) : Int) = (qN U34 (qO U34 (qO U34 66 0) 5) : Int) := by rw [o9_]; exact q2_.2.kL (j := 5) y1_ (y1_.ref (y1_.ptr ptrC_39) (y1_.2.1 _ finC_31).2.1) (g.row (y1_.ref (y1_.ptr ptrC_39) (y1_.2.1 _ finC_31).2.1)).1.2.2.2.1 (by decide) (by decide)
      have t20_ : (qN S14_8 (qO S14_8 66 4) : Int) = (qN U34 (qO U34 66 4) : Int) := q2_.2.kL (j := 4) y1_ (y1_.2.1 _ finC_31).2.1 (y1_.ptr ptrC_37) (by decide) (by decide)
      have g : ShC B S14_8 := q2_.1.1
      refine ⟨?_, ?_⟩
      · have s21_ := (g.row (y3_.ref (y3_.ptr ptrC_39) (y3_.2.1 _ finC_31).2.1)).2
        have s22_ := y3_.len9 (y3_.ref (y3_.ptr ptrC_37) (y3_.2.1 _ finC_31).2.1) (by decide)
        have s23_ := g.smk
        unfold SmK at s23_
        have n1_ := rgI v34_3
        have n2_ := rgI v34_2
        have n3_ := rgI (qI U34 (qO U34 66 0) 2)
        omega
      refine ⟨fun c24_ => ?_, fun c24_ => ?_⟩
      · unfold w_X9_findLive_J62
        intro y5_ y6_
        intro a20_25 ea20_25 
        have ga20_25 := congrArg Int32.toInt ea20_25
        refine ⟨?_, ?_⟩
        · have s26_ := (g.row (y5_.ref (y5_.ptr ptrC_39) (y5_.2.1 _ finC_31).2.1)).2
          have s27_ := y5_.len9 (y5_.ref (y5_.ptr ptrC_37) (y5_.2.1 _ finC_31).2.1) (by decide)
          have s28_ := g.smk
          unfold SmK at s28_
          have n1_ := rgI v34_3
          have n2_ := rgI v34_2
          have n3_ := rgI (qI U34 (qO U34 66 0) 2)
          have n4_ := rgI r13_8
          have n5_ := rgI (qI S14_8 (qO S14_8 66 4) v34_3.toInt.toNat)
          have n6_ := rgI a20_25
          have n7_ := rgI (v34_1 ||| (0 : Int32))
          omega
        intro S23_29 eS23_29 y7_ y8_
        have f30_ : cfr [229] [] S14_8 S23_29 := by rw [eS23_29]; exact cfr.aI y7_ (by decide)
        have o31_ : qO S23_29 66 0 = qO S14_8 66 0 := qO_eq (f30_.kO (y5_.2.1 _ finC_31).2.1 (by decide) (by decide))
        have t32_ : (qI S23_29 (qO S23_29 66 0) 2).toInt = (qI S14_8 (qO S14_8 66 0) 2).toInt := by rw [o31_]; exact congrArg Int32.toInt (f30_.kI (j := 2) (y5_.ref (y5_.ptr ptrC_39) (y5_.2.1 _ finC_31).2.1) (by decide) (by decide))
        have t33_ : (qI S23_29 (qO S23_29 66 0) 9).toInt = (qI S14_8 (qO S14_8 66 0) 9).toInt := by rw [o31_]; exact congrArg Int32.toInt (f30_.kI (j := 9) (y5_.ref (y5_.ptr ptrC_39) (y5_.2.1 _ finC_31).2.1) (by decide) (by decide))
        have t34_ : (qI S23_29 (qO S23_29 66 0) 4).toInt = (qI S14_8 (qO S14_8 66 0) 4).toInt := by rw [o31_]; exact congrArg Int32.toInt (f30_.kI (j := 4) (y5_.ref (y5_.ptr ptrC_39) (y5_.2.1 _ finC_31).2.1) (by decide) (by decide))
        have t35_ : (qN S23_29 (qO S23_29 (qO S23_29 66 0) 1) : Int) = (qN S14_8 (qO S14_8 (qO S14_8 66 0) 1) : Int) := by rw [o31_]; exact f30_.kL (j := 1) y5_ (y5_.ref (y5_.ptr ptrC_39) (y5_.2.1 _ finC_31).2.1) (g.row (y5_.ref (y5_.ptr ptrC_39) (y5_.2.1 _ finC_31).2.1)).1.2.1 (by decide) (by decide)
        have t36_ : (qN S23_29 (qO S23_29 (qO S23_29 66 0) 8) : Int) = (qN S14_8 (qO S14_8 (qO S14_8 66 0) 8) : Int) := by rw [o31_]; exact f30_.kL (j := 8) y5_ (y5_.ref (y5_.ptr ptrC_39) (y5_.2.1 _ finC_31).2.1) (g.row (y5_.ref (y5_.ptr ptrC_39) (y5_.2.1 _ finC_31).2.1)).1.2.2.2.2.2.2 (by decide) (by decide)
        have t37_ : (qN S23_29 (qO S23_29 (qO S23_29 66 0) 7) : Int) = (qN S14_8 (qO S14_8 (qO S14_8 66 0) 7) : Int) := by rw [o31_]; exact f30_.kL (j := 7) y5_ (y5_.ref (y5_.ptr ptrC_39) (y5_.2.1 _ finC_31).2.1) (g.row (y5_.ref (y5_.ptr ptrC_39) (y5_.2.1 _ finC_31).2.1)).1.2.2.2.2.2.1 (by decide) (by decide)
        have t38_ : (qN S23_29 (qO S23_29 (qO S23_29 66 0) 0) : Int) = (qN S14_8 (qO S14_8 (qO S14_8 66 0) 0) : Int) := by rw [o31_]; exact f30_.kL (j := 0) y5_ (y5_.ref (y5_.ptr ptrC_39) (y5_.2.1 _ finC_31).2.1) (g.row (y5_.ref (y5_.ptr ptrC_39) (y5_.2.1 _ finC_31).2.1)).1.1 (by decide) (by decide)
        have t39_ : (qN S23_29 (qO S23_29 (qO S23_29 66 0) 6) : Int) = (qN S14_8 (qO S14_8 (qO S14_8 66 0) 6) : Int) := by rw [o31_]; exact f30_.kL (j := 6) y5_ (y5_.ref (y5_.ptr ptrC_39) (y5_.2.1 _ finC_31).2.1) (g.row (y5_.ref (y5_.ptr ptrC_39) (y5_.2.1 _ finC_31).2.1)).1.2.2.2.2.1 (by decide) (by decide)
        have t40_ : (qN S23_29 (qO S23_29 (qO S23_29 66 0) 3) : Int) = (qN S14_8 (qO S14_8 (qO S14_8 66 0) 3) : Int) := by rw [o31_]; exact f30_.kL (j := 3) y5_ (y5_.ref (y5_.ptr ptrC_39) (y5_.2.1 _ finC_31).2.1) (g.row (y5_.ref (y5_.ptr ptrC_39) (y5_.2.1 _ finC_31).2.1)).1.2.2.1 (by decide) (by decide)
        have t41_ : (qN S23_29 (qO S23_29 (qO S23_29 66 0) 5) : Int) = (qN S14_8 (qO S14_8 (qO S14_8 66 0) 5) : Int) := by rw [o31_]; exact f30_.kL (j := 5) y5_ (y5_.ref (y5_.ptr ptrC_39) (y5_.2.1 _ finC_31).2.1) (g.row (y5_.ref (y5_.ptr ptrC_39) (y5_.2.1 _ finC_31).2.1)).1.2.2.2.1 (by decide) (by decide)
        have t42_ : (qN S23_29 (qO S23_29 66 4) : Int) = (qN S14_8 (qO S14_8 66 4) : Int) := f30_.kL (j := 4) y5_ (y5_.2.1 _ finC_31).2.1 (y5_.ptr ptrC_37) (by decide) (by decide)
        have g : ShC B S23_29 := ShC.ws y5_ g f30_ (by rw [eS23_29]; rfl) (by rw [eS23_29]; rfl) (by rw [eS23_29]; rfl) rfl rfl
        intro a24_43 ea24_43 
        have ga24_43 := t_dec ea24_43
        refine ih34 g ?_ ?_ ?_ ?_ ?_ ?_
        · have s44_ := (g.row (y8_.ref (y8_.ptr ptrC_39) (y8_.2.1 _ finC_31).2.1)).2
          have s45_ := y8_.len9 (y8_.ref (y8_.ptr ptrC_37) (y8_.2.1 _ finC_31).2.1) (by decide)
          have s46_ := g.smk
          unfold SmK at s46_
          have n1_ := rgI v34_2
          have n2_ := rgI v34_3
          have n3_ := rgI (qI U34 (qO U34 66 0) 2)
          have n4_ := rgI r13_8
          have n5_ := rgI (qI S14_8 (qO S14_8 66 4) v34_3.toInt.toNat)
          have n6_ := rgI a20_25
          have n7_ := rgI (v34_1 ||| (0 : Int32))
          have n8_ := rgI a24_43
          omega
        · have s47_ := (g.row (y8_.ref (y8_.ptr ptrC_39) (y8_.2.1 _ finC_31).2.1)).2
          have s48_ := y8_.len9 (y8_.ref (y8_.ptr ptrC_37) (y8_.2.1 _ finC_31).2.1) (by decide)
          have s49_ := g.smk
          unfold SmK at s49_
          have n1_ := rgI v34_2
          have n2_ := rgI v34_3
          have n3_ := rgI (qI U34 (qO U34 66 0) 2)
          have n4_ := rgI r13_8
          have n5_ := rgI (qI S14_8 (qO S14_8 66 4) v34_3.toInt.toNat)
          have n6_ := rgI a20_25
          have n7_ := rgI (v34_1 ||| (0 : Int32))
          have n8_ := rgI a24_43
          omega
        · have s50_ := (g.row (y8_.ref (y8_.ptr ptrC_39) (y8_.2.1 _ finC_31).2.1)).2
          have s51_ := y8_.len9 (y8_.ref (y8_.ptr ptrC_37) (y8_.2.1 _ finC_31).2.1) (by decide)
          have s52_ := g.smk
          unfold SmK at s52_
          have n1_ := rgI v34_2
          have n2_ := rgI v34_3
          have n3_ := rgI (qI U34 (qO U34 66 0) 2)
          have n4_ := rgI r13_8
          have n5_ := rgI (qI S14_8 (qO S14_8 66 4) v34_3.toInt.toNat)
          have n6_ := rgI a20_25
          have n7_ := rgI (v34_1 ||| (0 : Int32))
          have n8_ := rgI a24_43
          omega
        · have s53_ := (g.row (y8_.ref (y8_.ptr ptrC_39) (y8_.2.1 _ finC_31).2.1)).2
          have s54_ := y8_.len9 (y8_.ref (y8_.ptr ptrC_37) (y8_.2.1 _ finC_31).2.1) (by decide)
          have s55_ := g.smk
          unfold SmK at s55_
          have n1_ := rgI a24_43
          have n2_ := rgI (qI S23_29 (qO S23_29 66 0) 2)
          have n3_ := rgI v34_2
          have n4_ := rgI v34_3
          have n5_ := rgI (qI U34 (qO U34 66 0) 2)
          have n6_ := rgI r13_8
          have n7_ := rgI (qI S14_8 (qO S14_8 66 4) v34_3.toInt.toNat)
          have n8_ := rgI a20_25
          have n9_ := rgI (v34_1 ||| (0 : Int32))
          omega
        · have s56_ := (g.row (y8_.ref (y8_.ptr ptrC_39) (y8_.2.1 _ finC_31).2.1)).2
          have s57_ := y8_.len9 (y8_.ref (y8_.ptr ptrC_37) (y8_.2.1 _ finC_31).2.1) (by decide)
          have s58_ := g.smk
          unfold SmK at s58_
          have n1_ := rgI a24_43
          have n2_ := rgI v34_2
          have n3_ := rgI v34_3
          have n4_ := rgI (qI U34 (qO U34 66 0) 2)
          have n5_ := rgI r13_8
          have n6_ := rgI (qI S14_8 (qO S14_8 66 4) v34_3.toInt.toNat)
          have n7_ := rgI a20_25
          have n8_ := rgI (v34_1 ||| (0 : Int32))
          omega
        · have s59_ := (g.row (y8_.ref (y8_.ptr ptrC_39) (y8_.2.1 _ finC_31).2.1)).2
          have s60_ := y8_.len9 (y8_.ref (y8_.ptr ptrC_37) (y8_.2.1 _ finC_31).2.1) (by decide)
          have s61_ := g.smk
          unfold SmK at s61_
          have n1_ := rgI a24_43
          have n2_ := rgI v34_2
          have n3_ := rgI v34_3
          have n4_ := rgI (qI U34 (qO U34 66 0) 2)
          have n5_ := rgI r13_8
          have n6_ := rgI (qI S14_8 (qO S14_8 66 4) v34_3.toInt.toNat)
          have n7_ := rgI a20_25
          have n8_ := rgI (v34_1 ||| (0 : Int32))
          omega
      · unfold w_X9_findLive_J62
        intro y9_ y10_
        intro a20_62 ea20_62 
        have ga20_62 := congrArg Int32.toInt ea20_62
        refine ⟨?_, ?_⟩
        · have s63_ := (g.row (y9_.ref (y9_.ptr ptrC_39) (y9_.2.1 _ finC_31).2.1)).2
          have s64_ := y9_.len9 (y9_.ref (y9_.ptr ptrC_37) (y9_.2.1 _ finC_31).2.1) (by decide)
          have s65_ := g.smk
          unfold SmK at s65_
          have n1_ := rgI v34_3
          have n2_ := rgI v34_2
          have n3_ := rgI (qI U34 (qO U34 66 0) 2)
          have n4_ := rgI r13_8
          have n5_ := rgI (qI S14_8 (qO S14_8 66 4) v34_3.toInt.toNat)
          have n6_ := rgI a20_62
          have n7_ := rgI (v34_1 ||| (1 : Int32))
          omega
        intro S23_66 eS23_66 y11_ y12_
        have f67_ : cfr [229] [] S14_8 S23_66 := by rw [eS23_66]; exact cfr.aI y11_ (by decide)
        have o68_ : qO S23_66 66 0 = qO S14_8 66 0 := qO_eq (f67_.kO (y9_.2.1 _ finC_31).2.1 (by decide) (by decide))
        have t69_ : (qI S23_66 (qO S23_66 66 0) 2).toInt = (qI S14_8 (qO S14_8 66 0) 2).toInt := by rw [o68_]; exact congrArg Int32.toInt (f67_.kI (j := 2) (y9_.ref (y9_.ptr ptrC_39) (y9_.2.1 _ finC_31).2.1) (by decide) (by decide))
        have t70_ : (qI S23_66 (qO S23_66 66 0) 9).toInt = (qI S14_8 (qO S14_8 66 0) 9).toInt := by rw [o68_]; exact congrArg Int32.toInt (f67_.kI (j := 9) (y9_.ref (y9_.ptr ptrC_39) (y9_.2.1 _ finC_31).2.1) (by decide) (by decide))
        have t71_ : (qI S23_66 (qO S23_66 66 0) 4).toInt = (qI S14_8 (qO S14_8 66 0) 4).toInt := by rw [o68_]; exact congrArg Int32.toInt (f67_.kI (j := 4) (y9_.ref (y9_.ptr ptrC_39) (y9_.2.1 _ finC_31).2.1) (by decide) (by decide))
        have t72_ : (qN S23_66 (qO S23_66 (qO S23_66 66 0) 1) : Int) = (qN S14_8 (qO S14_8 (qO S14_8 66 0) 1) : Int) := by rw [o68_]; exact f67_.kL (j := 1) y9_ (y9_.ref (y9_.ptr ptrC_39) (y9_.2.1 _ finC_31).2.1) (g.row (y9_.ref (y9_.ptr ptrC_39) (y9_.2.1 _ finC_31).2.1)).1.2.1 (by decide) (by decide)
        have t73_ : (qN S23_66 (qO S23_66 (qO S23_66 66 0) 8) : Int) = (qN S14_8 (qO S14_8 (qO S14_8 66 0) 8) : Int) := by rw [o68_]; exact f67_.kL (j := 8) y9_ (y9_.ref (y9_.ptr ptrC_39) (y9_.2.1 _ finC_31).2.1) (g.row (y9_.ref (y9_.ptr ptrC_39) (y9_.2.1 _ finC_31).2.1)).1.2.2.2.2.2.2 (by decide) (by decide)
        have t74_ : (qN S23_66 (qO S23_66 (qO S23_66 66 0) 7) : Int) = (qN S14_8 (qO S14_8 (qO S14_8 66 0) 7) : Int) := by rw [o68_]; exact f67_.kL (j := 7) y9_ (y9_.ref (y9_.ptr ptrC_39) (y9_.2.1 _ finC_31).2.1) (g.row (y9_.ref (y9_.ptr ptrC_39) (y9_.2.1 _ finC_31).2.1)).1.2.2.2.2.2.1 (by decide) (by decide)
        have t75_ : (qN S23_66 (qO S23_66 (qO S23_66 66 0) 0) : Int) = (qN S14_8 (qO S14_8 (qO S14_8 66 0) 0) : Int) := by rw [o68_]; exact f67_.kL (j := 0) y9_ (y9_.ref (y9_.ptr ptrC_39) (y9_.2.1 _ finC_31).2.1) (g.row (y9_.ref (y9_.ptr ptrC_39) (y9_.2.1 _ finC_31).2.1)).1.1 (by decide) (by decide)
        have t76_ : (qN S23_66 (qO S23_66 (qO S23_66 66 0) 6) : Int) = (qN S14_8 (qO S14_8 (qO S14_8 66 0) 6) : Int) := by rw [o68_]; exact f67_.kL (j := 6) y9_ (y9_.ref (y9_.ptr ptrC_39) (y9_.2.1 _ finC_31).2.1) (g.row (y9_.ref (y9_.ptr ptrC_39) (y9_.2.1 _ finC_31).2.1)).1.2.2.2.2.1 (by decide) (by decide)
        have t77_ : (qN S23_66 (qO S23_66 (qO S23_66 66 0) 3) : Int) = (qN S14_8 (qO S14_8 (qO S14_8 66 0) 3) : Int) := by rw [o68_]; exact f67_.kL (j := 3) y9_ (y9_.ref (y9_.ptr ptrC_39) (y9_.2.1 _ finC_31).2.1) (g.row (y9_.ref (y9_.ptr ptrC_39) (y9_.2.1 _ finC_31).2.1)).1.2.2.1 (by decide) (by decide)
        have t78_ : (qN S23_66 (qO S23_66 (qO S23_66 66 0) 5) : Int) = (qN S14_8 (qO S14_8 (qO S14_8 66 0) 5) : Int) := by rw [o68_]; exact f67_.kL (j := 5) y9_ (y9_.ref (y9_.ptr ptrC_39) (y9_.2.1 _ finC_31).2.1) (g.row (y9_.ref (y9_.ptr ptrC_39) (y9_.2.1 _ finC_31).2.1)).1.2.2.2.1 (by decide) (by decide)
        have t79_ : (qN S23_66 (qO S23_66 66 4) : Int) = (qN S14_8 (qO S14_8 66 4) : Int) := f67_.kL (j := 4) y9_ (y9_.2.1 _ finC_31).2.1 (y9_.ptr ptrC_37) (by decide) (by decide)
        have g : ShC B S23_66 := ShC.ws y9_ g f67_ (by rw [eS23_66]; rfl) (by rw [eS23_66]; rfl) (by rw [eS23_66]; rfl) rfl rfl
        intro a24_80 ea24_80 
        have ga24_80 := t_dec ea24_80
        refine ih34 g ?_ ?_ ?_ ?_ ?_ ?_
        · have s81_ := (g.row (y12_.ref (y12_.ptr ptrC_39) (y12_.2.1 _ finC_31).2.1)).2
          have s82_ := y12_.len9 (y12_.ref (y12_.ptr ptrC_37) (y12_.2.1 _ finC_31).2.1) (by decide)
          have s83_ := g.smk
          unfold SmK at s83_
          have n1_ := rgI v34_2
          have n2_ := rgI v34_3
          have n3_ := rgI (qI U34 (qO U34 66 0) 2)
          have n4_ := rgI r13_8
          have n5_ := rgI (qI S14_8 (qO S14_8 66 4) v34_3.toInt.toNat)
          have n6_ := rgI a20_62
          have n7_ := rgI (v34_1 ||| (1 : Int32))
          have n8_ := rgI a24_80
          omega
        · have s84_ := (g.row (y12_.ref (y12_.ptr ptrC_39) (y12_.2.1 _ finC_31).2.1)).2
          have s85_ := y12_.len9 (y12_.ref (y12_.ptr ptrC_37) (y12_.2.1 _ finC_31).2.1) (by decide)
          have s86_ := g.smk
          unfold SmK at s86_
          have n1_ := rgI v34_2
          have n2_ := rgI v34_3
          have n3_ := rgI (qI U34 (qO U34 66 0) 2)
          have n4_ := rgI r13_8
          have n5_ := rgI (qI S14_8 (qO S14_8 66 4) v34_3.toInt.toNat)
          have n6_ := rgI a20_62
          have n7_ := rgI (v34_1 ||| (1 : Int32))
          have n8_ := rgI a24_80
          omega
        · have s87_ := (g.row (y12_.ref (y12_.ptr ptrC_39) (y12_.2.1 _ finC_31).2.1)).2
          have s88_ := y12_.len9 (y12_.ref (y12_.ptr ptrC_37) (y12_.2.1 _ finC_31).2.1) (by decide)
          have s89_ := g.smk
          unfold SmK at s89_
          have n1_ := rgI v34_2
          have n2_ := rgI v34_3
          have n3_ := rgI (qI U34 (qO U34 66 0) 2)
          have n4_ := rgI r13_8
          have n5_ := rgI (qI S14_8 (qO S14_8 66 4) v34_3.toInt.toNat)
          have n6_ := rgI a20_62
          have n7_ := rgI (v34_1 ||| (1 : Int32))
          have n8_ := rgI a24_80
          omega
        · have s90_ := (g.row (y12_.ref (y12_.ptr ptrC_39) (y12_.2.1 _ finC_31).2.1)).2
          have s91_ := y12_.len9 (y12_.ref (y12_.ptr ptrC_37) (y12_.2.1 _ finC_31).2.1) (by decide)
          have s92_ := g.smk
          unfold SmK at s92_
          have n1_ := rgI a24_80
          have n2_ := rgI (qI S23_66 (qO S23_66 66 0) 2)
          have n3_ := rgI v34_2
          have n4_ := rgI v34_3
          have n5_ := rgI (qI U34 (qO U34 66 0) 2)
          have n6_ := rgI r13_8
          have n7_ := rgI (qI S14_8 (qO S14_8 66 4) v34_3.toInt.toNat)
          have n8_ := rgI a20_62
          have n9_ := rgI (v34_1 ||| (1 : Int32))
          omega
        · have s93_ := (g.row (y12_.ref (y12_.ptr ptrC_39) (y12_.2.1 _ finC_31).2.1)).2
          have s94_ := y12_.len9 (y12_.ref (y12_.ptr ptrC_37) (y12_.2.1 _ finC_31).2.1) (by decide)
          have s95_ := g.smk
          unfold SmK at s95_
          have n1_ := rgI a24_80
          have n2_ := rgI v34_2
          have n3_ := rgI v34_3
          have n4_ := rgI (qI U34 (qO U34 66 0) 2)
          have n5_ := rgI r13_8
          have n6_ := rgI (qI S14_8 (qO S14_8 66 4) v34_3.toInt.toNat)
          have n7_ := rgI a20_62
          have n8_ := rgI (v34_1 ||| (1 : Int32))
          omega
        · have s96_ := (g.row (y12_.ref (y12_.ptr ptrC_39) (y12_.2.1 _ finC_31).2.1)).2
          have s97_ := y12_.len9 (y12_.ref (y12_.ptr ptrC_37) (y12_.2.1 _ finC_31).2.1) (by decide)
          have s98_ := g.smk
          unfold SmK at s98_
          have n1_ := rgI a24_80
          have n2_ := rgI v34_2
          have n3_ := rgI v34_3
          have n4_ := rgI (qI U34 (qO U34 66 0) 2)
          have n5_ := rgI r13_8
          have n6_ := rgI (qI S14_8 (qO S14_8 66 4) v34_3.toInt.toNat)
          have n7_ := rgI a20_62
          have n8_ := rgI (v34_1 ||| (1 : Int32))
          omega
set_option maxRecDepth 100000 in
theorem sg_X9_findLive_L12 {B : Nat × Nat} : ∀ (n : Nat) {U12 : MS} {v12_1 : Int32} {v12_2 : Int32}, ShC B U12 → 0 ≤ v12_2.toInt → 2147483648 - v12_2.toInt < n → w_X9_findLive_L12 (fun u => ShC B u ∧ (True)) n U12 v12_1 v12_2 := by
  intro n
  induction n with
  | zero => intro U12 v12_1 v12_2 g j0_ hm_; exfalso; have := rgI v12_1; have := rgI v12_2; omega
  | succ n ih12 =>
    intro U12 v12_1 v12_2 g j0_ hm_
    unfold w_X9_findLive_L12
    intro y13_
    refine ⟨fun c99_ => ?_, fun c99_ => ?_⟩
    · exact ⟨g, trivial⟩
    · refine ⟨fun c100_ => ?_, fun c100_ => ?_⟩
      · exact ⟨g, trivial⟩
      · intro a9_101 ea9_101 
        have ga9_101 := congrArg Int32.toInt ea9_101
        refine ⟨(a9_101.toInt + 2147483649).toNat + 1, ?_⟩
        refine sg_X9_findLive_L34  (fun _ _ _ g_ i0_ hm_ => ih12 g_ i0_ hm_) _ g ?_ ?_ ?_ ?_ ?_ ?_
        · have s102_ := (g.row (y13_.ref (y13_.ptr ptrC_39) (y13_.2.1 _ finC_31).2.1)).2
          have s103_ := y13_.len9 (y13_.ref (y13_.ptr ptrC_37) (y13_.2.1 _ finC_31).2.1) (by decide)
          have s104_ := g.smk
          unfold SmK at s104_
          have n1_ := rgI v12_2
          have n2_ := rgI v12_1
          have n3_ := rgI a9_101
          have n5_ := rgI (qI U12 (qO U12 66 0) 2)
          have n6_ := li_1k
          have n6_ := t_subD (a := (qI U12 (qO U12 66 0) 2)) (b := (1 : Int32))
          have n7_ := rgI ((qI U12 (qO U12 66 0) 2) - (1 : Int32))
          omega
        · have s105_ := (g.row (y13_.ref (y13_.ptr ptrC_39) (y13_.2.1 _ finC_31).2.1)).2
          have s106_ := y13_.len9 (y13_.ref (y13_.ptr ptrC_37) (y13_.2.1 _ finC_31).2.1) (by decide)
          have s107_ := g.smk
          unfold SmK at s107_
          have n1_ := rgI v12_2
          have n2_ := rgI v12_1
          have n3_ := rgI a9_101
          have n5_ := rgI (qI U12 (qO U12 66 0) 2)
          have n6_ := li_1k
          have n6_ := t_subD (a := (qI U12 (qO U12 66 0) 2)) (b := (1 : Int32))
          have n7_ := rgI ((qI U12 (qO U12 66 0) 2) - (1 : Int32))
          omega
        · have s108_ := (g.row (y13_.ref (y13_.ptr ptrC_39) (y13_.2.1 _ finC_31).2.1)).2
          have s109_ := y13_.len9 (y13_.ref (y13_.ptr ptrC_37) (y13_.2.1 _ finC_31).2.1) (by decide)
          have s110_ := g.smk
          unfold SmK at s110_
          have n1_ := rgI v12_2
          have n2_ := rgI v12_1
          have n3_ := rgI a9_101
          have n5_ := rgI (qI U12 (qO U12 66 0) 2)
          have n6_ := li_1k
          have n6_ := t_subD (a := (qI U12 (qO U12 66 0) 2)) (b := (1 : Int32))
          have n7_ := rgI ((qI U12 (qO U12 66 0) 2) - (1 : Int32))
          omega
        · have s111_ := (g.row (y13_.ref (y13_.ptr ptrC_39) (y13_.2.1 _ finC_31).2.1)).2
          have s112_ := y13_.len9 (y13_.ref (y13_.ptr ptrC_37) (y13_.2.1 _ finC_31).2.1) (by decide)
          have s113_ := g.smk
          unfold SmK at s113_
          have n1_ := rgI a9_101
          have n2_ := rgI (qI U12 (qO U12 66 0) 2)
          have n3_ := rgI v12_2
          have n4_ := rgI v12_1
          have n6_ := li_1k
          have n6_ := t_subD (a := (qI U12 (qO U12 66 0) 2)) (b := (1 : Int32))
          have n7_ := rgI ((qI U12 (qO U12 66 0) 2) - (1 : Int32))
          omega
        · have s114_ := (g.row (y13_.ref (y13_.ptr ptrC_39) (y13_.2.1 _ finC_31).2.1)).2
          have s115_ := y13_.len9 (y13_.ref (y13_.ptr ptrC_37) (y13_.2.1 _ finC_31).2.1) (by decide)
          have s116_ := g.smk
          unfold SmK at s116_
          have n1_ := rgI a9_101
          have n2_ := rgI v12_2
          have n3_ := rgI v12_1
          have n5_ := rgI (qI U12 (qO U12 66 0) 2)
          have n6_ := li_1k
          have n6_ := t_subD (a := (qI U12 (qO U12 66 0) 2)) (b := (1 : Int32))
          have n7_ := rgI ((qI U12 (qO U12 66 0) 2) - (1 : Int32))
          omega
        · have s117_ := (g.row (y13_.ref (y13_.ptr ptrC_39) (y13_.2.1 _ finC_31).2.1)).2
          have s118_ := y13_.len9 (y13_.ref (y13_.ptr ptrC_37) (y13_.2.1 _ finC_31).2.1) (by decide)
          have s119_ := g.smk
          unfold SmK at s119_
          have n1_ := rgI a9_101
          have n2_ := rgI v12_2
          have n3_ := rgI v12_1
          have n5_ := rgI (qI U12 (qO U12 66 0) 2)
          have n6_ := li_1k
          have n6_ := t_subD (a := (qI U12 (qO U12 66 0) 2)) (b := (1 : Int32))
          have n7_ := rgI ((qI U12 (qO U12 66 0) 2) - (1 : Int32))
          omega
set_option maxRecDepth 100000 in
theorem sgX9_findLive {B : Nat × Nat} {S : MS} (hw : wfC S) (g : ShC B S) : wX9_findLive S (fun u => ShC B u ∧ (True)) := by
  unfold wX9_findLive
  intro y14_
  refine ⟨_, frJ7_fill_53178 y14_ (by decide) (sfJ7_fill_53178 hw y14_ (by decide)), ?_⟩
  intro S3_120 q15_ y16_ y17_
  have o121_ : qO S3_120 66 0 = qO S 66 0 := qO_eq (q15_.2.kO (hw.2.1 _ finC_31).2.1 (by decide) (by decide))
  have t122_ : (qI S3_120 (qO S3_120 66 0) 2).toInt = (qI S (qO S 66 0) 2).toInt := by rw [o121_]; exact congrArg Int32.toInt (q15_.2.kI (j := 2) (hw.ref (hw.ptr ptrC_39) (hw.2.1 _ finC_31).2.1) (by decide) (by decide))
  have t123_ : (qI S3_120 (qO S3_120 66 0) 9).toInt = (qI S (qO S 66 0) 9).toInt := by rw [o121_]; exact congrArg Int32.toInt (q15_.2.kI (j := 9) (hw.ref (hw.ptr ptrC_39) (hw.2.1 _ finC_31).2.1) (by decide) (by decide))
  have t124_ : (qI S3_120 (qO S3_120 66 0) 4).toInt = (qI S (qO S 66 0) 4).toInt := by rw [o121_]; exact congrArg Int32.toInt (q15_.2.kI (j := 4) (hw.ref (hw.ptr ptrC_39) (hw.2.1 _ finC_31).2.1) (by decide) (by decide))
  have t125_ : (qN S3_120 (qO S3_120 (qO S3_120 66 0) 1) : Int) = (qN S (qO S (qO S 66 0) 1) : Int) := by rw [o121_]; exact q15_.2.kL (j := 1) hw (hw.ref (hw.ptr ptrC_39) (hw.2.1 _ finC_31).2.1) (g.row (hw.ref (hw.ptr ptrC_39) (hw.2.1 _ finC_31).2.1)).1.2.1 (by decide) (by decide)
  have t126_ : (qN S3_120 (qO S3_120 (qO S3_120 66 0) 8) : Int) = (qN S (qO S (qO S 66 0) 8) : Int) := by rw [o121_]; exact q15_.2.kL (j := 8) hw (hw.ref (hw.ptr ptrC_39) (hw.2.1 _ finC_31).2.1) (g.row (hw.ref (hw.ptr ptrC_39) (hw.2.1 _ finC_31).2.1)).1.2.2.2.2.2.2 (by decide) (by decide)
  have t127_ : (qN S3_120 (qO S3_120 (qO S3_120 66 0) 7) : Int) = (qN S (qO S (qO S 66 0) 7) : Int) := by rw [o121_]; exact q15_.2.kL (j := 7) hw (hw.ref (hw.ptr ptrC_39) (hw.2.1 _ finC_31).2.1) (g.row (hw.ref (hw.ptr ptrC_39) (hw.2.1 _ finC_31).2.1)).1.2.2.2.2.2.1 (by decide) (by decide)
  have t128_ : (qN S3_120 (qO S3_120 (qO S3_120 66 0) 0) : Int) = (qN S (qO S (qO S 66 0) 0) : Int) := by rw [o121_]; exact q15_.2.kL (j := 0) hw (hw.ref (hw.ptr ptrC_39) (hw.2.1 _ finC_31).2.1) (g.row (hw.ref (hw.ptr ptrC_39) (hw.2.1 _ finC_31).2.1)).1.1 (by decide) (by decide)
  have t129_ : (qN S3_120 (qO S3_120 (qO S3_120 66 0) 6) : Int) = (qN S (qO S (qO S 66 0) 6) : Int) := by rw [o121_]; exact q15_.2.kL (j := 6) hw (hw.ref (hw.ptr ptrC_39) (hw.2.1 _ finC_31).2.1) (g.row (hw.ref (hw.ptr ptrC_39) (hw.2.1 _ finC_31).2.1)).1.2.2.2.2.1 (by decide) (by decide)
  have t130_ : (qN S3_120 (qO S3_120 (qO S3_120 66 0) 3) : Int) = (qN S (qO S (qO S 66 0) 3) : Int) := by rw [o121_]; exact q15_.2.kL (j := 3) hw (hw.ref (hw.ptr ptrC_39) (hw.2.1 _ finC_31).2.1) (g.row (hw.ref (hw.ptr ptrC_39) (hw.2.1 _ finC_31).2.1)).1.2.2.1 (by decide) (by decide)
  have t131_ : (qN S3_120 (qO S3_120 (qO S3_120 66 0) 5) : Int) = (qN S (qO S (qO S 66 0) 5) : Int) := by rw [o121_]; exact q15_.2.kL (j := 5) hw (hw.ref (hw.ptr ptrC_39) (hw.2.1 _ finC_31).2.1) (g.row (hw.ref (hw.ptr ptrC_39) (hw.2.1 _ finC_31).2.1)).1.2.2.2.1 (by decide) (by decide)
  have t132_ : (qN S3_120 (qO S3_120 66 4) : Int) = (qN S (qO S 66 4) : Int) := q15_.2.kL (j := 4) hw (hw.2.1 _ finC_31).2.1 (hw.ptr ptrC_37) (by decide) (by decide)
  have g : ShC B S3_120 := ShC.ca hw g q15_.2 y17_ y16_ rfl rfl
  refine ⟨(2147483648 - (0 : Int32).toInt).toNat + 1, ?_⟩
  refine sg_X9_findLive_L12  _ g ?_ ?_
  · have s133_ := (g.row (y16_.ref (y16_.ptr ptrC_39) (y16_.2.1 _ finC_31).2.1)).2
    have s134_ := y16_.len9 (y16_.ref (y16_.ptr ptrC_37) (y16_.2.1 _ finC_31).2.1) (by decide)
    have s135_ := g.smk
    unfold SmK at s135_
    have n1_ := li_0k
    omega
  · have s136_ := (g.row (y16_.ref (y16_.ptr ptrC_39) (y16_.2.1 _ finC_31).2.1)).2
    have s137_ := y16_.len9 (y16_.ref (y16_.ptr ptrC_37) (y16_.2.1 _ finC_31).2.1) (by decide)
    have s138_ := g.smk
    unfold SmK at s138_
    have n1_ := li_0k
    omega
