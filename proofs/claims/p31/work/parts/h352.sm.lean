set_option maxRecDepth 100000 in
theorem sgX9_isNewlyReached {B : Nat × Nat} {S : MS} {x1 : Int32} (hw : wfC S) (g : ShC B S) : wX9_isNewlyReached S x1 (fun (r : Int32) (u : MS) => ShC B u ∧ (r = 0 ∨ r = 1)) := by
  unfold wX9_isNewlyReached
  refine ⟨fun c0_ => ?_, fun c0_ => ?_⟩
  · refine ⟨g, ?_⟩
    show (0 : Int32) = 0 ∨ (0 : Int32) = 1
    exact (Or.inl rfl)
  · refine ⟨fun c1_ => ?_, fun c1_ => ?_⟩
    · refine ⟨g, ?_⟩
      show (0 : Int32) = 0 ∨ (0 : Int32) = 1
      exact (Or.inl rfl)
    · refine ⟨?_, ?_⟩
      · have s2_ := (g.row (hw.ref (hw.ptr ptrC_39) (hw.2.1 _ finC_31).2.1)).2
        have s3_ := hw.len9 (hw.ref (hw.ptr ptrC_36) (hw.2.1 _ finC_31).2.1) (by decide)
        have s4_ := g.smk
        unfold SmK at s4_
        have n1_ := rgI x1
        have n2_ := rgI (qI S (qO S 66 0) 2)
        omega
      refine ⟨fun c5_ => ?_, fun c5_ => ?_⟩
      · refine ⟨?_, ?_⟩
        · have s6_ := (g.row (hw.ref (hw.ptr ptrC_39) (hw.2.1 _ finC_31).2.1)).2
          have s7_ := hw.len9 (hw.ref (hw.ptr ptrC_36) (hw.2.1 _ finC_31).2.1) (by decide)
          have s8_ := g.smk
          unfold SmK at s8_
          have n1_ := rgI x1
          have n2_ := rgI (qI S (qO S 66 0) 2)
          have n3_ := rgI (qI S (qO S 66 3) x1.toInt.toNat)
          omega
        intro S11_9 eS11_9 y1_ y2_
        have f10_ : cfr [306] [] S S11_9 := by rw [eS11_9]; exact cfr.aI y1_ (by decide)
        have o11_ : qO S11_9 66 0 = qO S 66 0 := qO_eq (f10_.kO (hw.2.1 _ finC_31).2.1 (by decide) (by decide))
        have t12_ : (qI S11_9 (qO S11_9 66 0) 2).toInt = (qI S (qO S 66 0) 2).toInt := by rw [o11_]; exact congrArg Int32.toInt (f10_.kI (j := 2) (hw.ref (hw.ptr ptrC_39) (hw.2.1 _ finC_31).2.1) (by decide) (by decide))
        have t13_ : (qI S11_9 (qO S11_9 66 0) 9).toInt = (qI S (qO S 66 0) 9).toInt := by rw [o11_]; exact congrArg Int32.toInt (f10_.kI (j := 9) (hw.ref (hw.ptr ptrC_39) (hw.2.1 _ finC_31).2.1) (by decide) (by decide))
        have t14_ : (qI S11_9 (qO S11_9 66 0) 4).toInt = (qI S (qO S 66 0) 4).toInt := by rw [o11_]; exact congrArg Int32.toInt (f10_.kI (j := 4) (hw.ref (hw.ptr ptrC_39) (hw.2.1 _ finC_31).2.1) (by decide) (by decide))
        have t15_ : (qN S11_9 (qO S11_9 (qO S11_9 66 0) 1) : Int) = (qN S (qO S (qO S 66 0) 1) : Int) := by rw [o11_]; exact f10_.kL (j := 1) hw (hw.ref (hw.ptr ptrC_39) (hw.2.1 _ finC_31).2.1) (g.row (hw.ref (hw.ptr ptrC_39) (hw.2.1 _ finC_31).2.1)).1.2.1 (by decide) (by decide)
        have t16_ : (qN S11_9 (qO S11_9 (qO S11_9 66 0) 8) : Int) = (qN S (qO S (qO S 66 0) 8) : Int) := by rw [o11_]; exact f10_.kL (j := 8) hw (hw.ref (hw.ptr ptrC_39) (hw.2.1 _ finC_31).2.1) (g.row (hw.ref (hw.ptr ptrC_39) (hw.2.1 _ finC_31).2.1)).1.2.2.2.2.2.2 (by decide) (by decide)
        have t17_ : (qN S11_9 (qO S11_9 (qO S11_9 66 0) 7) : Int) = (qN S (qO S (qO S 66 0) 7) : Int) := by rw [o11_]; exact f10_.kL (j := 7) hw (hw.ref (hw.ptr ptrC_39) (hw.2.1 _ finC_31).2.1) (g.row (hw.ref (hw.ptr ptrC_39) (hw.2.1 _ finC_31).2.1)).1.2.2.2.2.2.1 (by decide) (by decide)
        have t18_ : (qN S11_9 (qO S11_9 (qO S11_9 66 0) 0) : Int) = (qN S (qO S (qO S 66 0) 0) : Int) := by rw [o11_]; exact f10_.kL (j := 0) hw (hw.ref (hw.ptr ptrC_39) (hw.2.1 _ finC_31).2.1) (g.row (hw.ref (hw.ptr ptrC_39) (hw.2.1 _ finC_31).2.1)).1.1 (by decide) (by decide)
        have t19_ : (qN S11_9 (qO S11_9 (qO S11_9 66 0) 6) : Int) = (qN S (qO S (qO S 66 0) 6) : Int) := by rw [o11_]; exact f10_.kL (j := 6) hw (hw.ref (hw.ptr ptrC_39) (hw.2.1 _ finC_31).2.1) (g.row (hw.ref (hw.ptr ptrC_39) (hw.2.1 _ finC_31).2.1)).1.2.2.2.2.1 (by decide) (by decide)
        have t20_ : (qN S11_9 (qO S11_9 (qO S11_9 66 0) 3) : Int) = (qN S (qO S (qO S 66 0) 3) : Int) := by rw [o11_]; exact f10_.kL (j := 3) hw (hw.ref (hw.ptr ptrC_39) (hw.2.1 _ finC_31).2.1) (g.row (hw.ref (hw.ptr ptrC_39) (hw.2.1 _ finC_31).2.1)).1.2.2.1 (by decide) (by decide)
        have t21_ : (qN S11_9 (qO S11_9 (qO S11_9 66 0) 5) : Int) = (qN S (qO S (qO S 66 0) 5) : Int) := by rw [o11_]; exact f10_.kL (j := 5) hw (hw.ref (hw.ptr ptrC_39) (hw.2.1 _ finC_31).2.1) (g.row (hw.ref (hw.ptr ptrC_39) (hw.2.1 _ finC_31).2.1)).1.2.2.2.1 (by decide) (by decide)
        have t22_ : (qN S11_9 (qO S11_9 66 3) : Int) = (qN S (qO S 66 3) : Int) := f10_.kL (j := 3) hw (hw.2.1 _ finC_31).2.1 (hw.ptr ptrC_36) (by decide) (by decide)
        have g : ShC B S11_9 := ShC.ws hw g f10_ (by rw [eS11_9]; rfl) (by rw [eS11_9]; rfl) (by rw [eS11_9]; rfl) rfl rfl
        refine ⟨g, ?_⟩
        show (1 : Int32) = 0 ∨ (1 : Int32) = 1
        exact (Or.inr rfl)
      · refine ⟨g, ?_⟩
        show (0 : Int32) = 0 ∨ (0 : Int32) = 1
        exact (Or.inl rfl)
set_option maxRecDepth 100000 in
theorem sg_X9_reachFrom_L74 {B : Nat × Nat} : ∀ (n : Nat) {U74 : MS} {v74_1 : Int32} {v74_2 : Int32} {v74_4 : Int32}, ShC B U74 → 0 ≤ v74_4.toInt → v74_2 = 0 ∨ v74_2 = 1 → 2147483648 - v74_4.toInt < n → w_X9_reachFrom_L74 (fun _ u => ShC B u ∧ (True)) n U74 v74_1 v74_2 v74_4 := by
  intro n
  induction n with
  | zero => intro U74 v74_1 v74_2 v74_4 g j0_ j1_ hm_; exfalso; have := rgI v74_1; have := rgI v74_2; have := rgI v74_4; omega
  | succ n ih74 =>
    intro U74 v74_1 v74_2 v74_4 g j0_ j1_ hm_
    unfold w_X9_reachFrom_L74
    intro y1_
    refine ⟨fun c0_ => ?_, fun c0_ => ?_⟩
    · refine ⟨?_, ?_⟩
      · exact j1_
      exact ⟨g, trivial⟩
    · refine ⟨?_, ?_⟩
      · exact (dd_X8_catchHas y1_ g (y1_.ref (y1_.ptr ptrC_39) (y1_.2.1 _ finC_31).2.1))
      intro a23_1 ea23_1 
      have ga23_1 := congrArg Int32.toInt ea23_1
      refine ⟨fun c2_ => ?_, fun c2_ => ?_⟩
      · unfold w_X9_reachFrom_J121
        intro y2_
        unfold w_X9_reachFrom_J122
        intro y3_ y4_
        intro a25_3 ea25_3 
        have ga25_3 := congrArg Int32.toInt ea25_3
        intro a26_4 ea26_4 
        have ga26_4 := congrArg Int32.toInt ea26_4
        refine ih74 g ?_ ?_ ?_
        · have s5_ := (g.row (y3_.ref (y3_.ptr ptrC_39) (y3_.2.1 _ finC_31).2.1)).2
          have s6_ := g.smk
          unfold SmK at s6_
          have n1_ := rgI a26_4
          have n2_ := rgI v74_4
          have n3_ := rgI (qI U74 (qO U74 66 0) 9)
          have n4_ := rgI a23_1
          have n5_ := rgI (fX8_catchHas U74 (qO U74 66 0) v74_4 v74_1)
          have n6_ := rgI a25_3
          have n7_ := rgI (v74_2 ||| (0 : Int32))
          have n9_ := lo_1k
          have n9_ := t_addD (a := v74_4) (b := Int32.ofInt 1)
          have n10_ := rgI (v74_4 + Int32.ofInt 1)
          omega
        · exact (by rw [ea25_3]; exact (bit_or j1_ (Or.inl rfl)))
        · have s7_ := (g.row (y3_.ref (y3_.ptr ptrC_39) (y3_.2.1 _ finC_31).2.1)).2
          have s8_ := g.smk
          unfold SmK at s8_
          have n1_ := rgI a26_4
          have n2_ := rgI v74_4
          have n3_ := rgI (qI U74 (qO U74 66 0) 9)
          have n4_ := rgI a23_1
          have n5_ := rgI (fX8_catchHas U74 (qO U74 66 0) v74_4 v74_1)
          have n6_ := rgI a25_3
          have n7_ := rgI (v74_2 ||| (0 : Int32))
          have n9_ := lo_1k
          have n9_ := t_addD (a := v74_4) (b := Int32.ofInt 1)
          have n10_ := rgI (v74_4 + Int32.ofInt 1)
          omega
      · refine ⟨?_, ?_⟩
        · exact (g.row (y1_.ref (y1_.ptr ptrC_39) (y1_.2.1 _ finC_31).2.1)).1.2.2.2.2.2.1
        refine ⟨?_, ?_⟩
        · have s9_ := (g.row (y1_.ref (y1_.ptr ptrC_39) (y1_.2.1 _ finC_31).2.1)).2
          have s10_ := g.smk
          unfold SmK at s10_
          have n1_ := rgI v74_4
          have n2_ := rgI (qI U74 (qO U74 66 0) 9)
          have n3_ := rgI a23_1
          have n4_ := rgI (fX8_catchHas U74 (qO U74 66 0) v74_4 v74_1)
          omega
        refine ⟨_, frX9_isNewlyReached y1_ (sgX9_isNewlyReached y1_ g), ?_⟩
        intro r34_11 S35_11 q5_ y6_ y7_
        have o12_ : qO S35_11 66 0 = qO U74 66 0 := qO_eq (q5_.2.kO (y1_.2.1 _ finC_31).2.1 (by decide) (by decide))
        have t13_ : (qI S35_11 (qO S35_11 66 0) 4).toInt = (qI U74 (qO U74 66 0) 4).toInt := by rw [o12_]; exact congrArg Int32.toInt (q5_.2.kI (j := 4) (y1_.ref (y1_.ptr ptrC_39) (y1_.2.1 _ finC_31).2.1) (by decide) (by decide))
        have t14_ : (qI S35_11 (qO S35_11 66 0) 9).toInt = (qI U74 (qO U74 66 0) 9).toInt := by rw [o12_]; exact congrArg Int32.toInt (q5_.2.kI (j := 9) (y1_.ref (y1_.ptr ptrC_39) (y1_.2.1 _ finC_31).2.1) (by decide) (by decide))
        have t15_ : (qI S35_11 (qO S35_11 66 0) 2).toInt = (qI U74 (qO U74 66 0) 2).toInt := by rw [o12_]; exact congrArg Int32.toInt (q5_.2.kI (j := 2) (y1_.ref (y1_.ptr ptrC_39) (y1_.2.1 _ finC_31).2.1) (by decide) (by decide))
        have t16_ : (qN S35_11 (qO S35_11 (qO S35_11 66 0) 1) : Int) = (qN U74 (qO U74 (qO U74 66 0) 1) : Int) := by rw [o12_]; exact q5_.2.kL (j := 1) y1_ (y1_.ref (y1_.ptr ptrC_39) (y1_.2.1 _ finC_31).2.1) (g.row (y1_.ref (y1_.ptr ptrC_39) (y1_.2.1 _ finC_31).2.1)).1.2.1 (by decide) (by decide)
        have t17_ : (qN S35_11 (qO S35_11 (qO S35_11 66 0) 8) : Int) = (qN U74 (qO U74 (qO U74 66 0) 8) : Int) := by rw [o12_]; exact q5_.2.kL (j := 8) y1_ (y1_.ref (y1_.ptr ptrC_39) (y1_.2.1 _ finC_31).2.1) (g.row (y1_.ref (y1_.ptr ptrC_39) (y1_.2.1 _ finC_31).2.1)).1.2.2.2.2.2.2 (by decide) (by decide)
        have t18_ : (qN S35_11 (qO S35_11 (qO S35_11 66 0) 7) : Int) = (qN U74 (qO U74 (qO U74 66 0) 7) : Int) := by rw [o12_]; exact q5_.2.kL (j := 7) y1_ (y1_.ref (y1_.ptr ptrC_39) (y1_.2.1 _ finC_31).2.1) (g.row (y1_.ref (y1_.ptr ptrC_39) (y1_.2.1 _ finC_31).2.1)).1.2.2.2.2.2.1 (by decide) (by decide)
        have t19_ : (qN S35_11 (qO S35_11 (qO S35_11 66 0) 0) : Int) = (qN U74 (qO U74 (qO U74 66 0) 0) : Int) := by rw [o12_]; exact q5_.2.kL (j := 0) y1_ (y1_.ref (y1_.ptr ptrC_39) (y1_.2.1 _ finC_31).2.1) (g.row (y1_.ref (y1_.ptr ptrC_39) (y1_.2.1 _ finC_31).2.1)).1.1 (by decide) (by decide)
        have t20_ : (qN S35_11 (qO S35_11 (qO S35_11 66 0) 6) : Int) = (qN U74 (qO U74 (qO U74 66 0) 6) : Int) := by rw [o12_]; exact q5_.2.kL (j := 6) y1_ (y1_.ref (y1_.ptr ptrC_39) (y1_.2.1 _ finC_31).2.1) (g.row (y1_.ref (y1_.ptr ptrC_39) (y1_.2.1 _ finC_31).2.1)).1.2.2.2.2.1 (by decide) (by decide)
        have t21_ : (qN S35_11 (qO S35_11 (qO S35_11 66 0) 3) : Int) = (qN U74 (qO U74 (qO U74 66 0) 3) : Int) := by rw [o12_]; exact q5_.2.kL (j := 3) y1_ (y1_.ref (y1_.ptr ptrC_39) (y1_.2.1 _ finC_31).2.1) (g.row (y1_.ref (y1_.ptr ptrC_39) (y1_.2.1 _ finC_31).2.1)).1.2.2.1 (by decide) (by decide)
        have t22_ : (qN S35_11 (qO S35_11 (qO S35_11 66 0) 5) : Int) = (qN U74 (qO U74 (qO U74 66 0) 5) : Int) := by rw [o12_]; exact q5_.2.kL (j := 5) y1_ (y1_.ref (y1_.ptr ptrC_39) (y1_.2.1 _ finC_31).2.1) (g.row (y1_.ref (y1_.ptr ptrC_39) (y1_.2.1 _ finC_31).2.1)).1.2.2.2.1 (by decide) (by decide)
        have g : ShC B S35_11 := q5_.1.1
        have zq5_ : r34_11 = 0 ∨ r34_11 = 1 := q5_.1.2
        refine ⟨fun c23_ => ?_, fun c23_ => ?_⟩
        · unfold w_X9_reachFrom_J121
          intro y8_
          unfold w_X9_reachFrom_J122
          intro y9_ y10_
          intro a25_24 ea25_24 
          have ga25_24 := congrArg Int32.toInt ea25_24
          intro a26_25 ea26_25 
          have ga26_25 := congrArg Int32.toInt ea26_25
          refine ih74 g ?_ ?_ ?_
          · have s26_ := (g.row (y9_.ref (y9_.ptr ptrC_39) (y9_.2.1 _ finC_31).2.1)).2
            have s27_ := g.smk
            unfold SmK at s27_
            have n1_ := rgI a26_25
            have n2_ := rgI v74_4
            have n3_ := rgI (qI U74 (qO U74 66 0) 9)
            have n4_ := rgI a23_1
            have n5_ := rgI (fX8_catchHas U74 (qO U74 66 0) v74_4 v74_1)
            have n6_ := rgI r34_11
            have n7_ := rgI a25_24
            have n8_ := rgI (v74_2 ||| (0 : Int32))
            have n10_ := lo_1k
            have n10_ := t_addD (a := v74_4) (b := Int32.ofInt 1)
            have n11_ := rgI (v74_4 + Int32.ofInt 1)
            omega
          · exact (by rw [ea25_24]; exact (bit_or j1_ (Or.inl rfl)))
          · have s28_ := (g.row (y9_.ref (y9_.ptr ptrC_39) (y9_.2.1 _ finC_31).2.1)).2
            have s29_ := g.smk
            unfold SmK at s29_
            have n1_ := rgI a26_25
            have n2_ := rgI v74_4
            have n3_ := rgI (qI U74 (qO U74 66 0) 9)
            have n4_ := rgI a23_1
            have n5_ := rgI (fX8_catchHas U74 (qO U74 66 0) v74_4 v74_1)
            have n6_ := rgI r34_11
            have n7_ := rgI a25_24
            have n8_ := rgI (v74_2 ||| (0 : Int32))
            have n10_ := lo_1k
            have n10_ := t_addD (a := v74_4) (b := Int32.ofInt 1)
            have n11_ := rgI (v74_4 + Int32.ofInt 1)
            omega
        · unfold w_X9_reachFrom_J122
          intro y11_ y12_
          intro a25_30 ea25_30 
          have ga25_30 := congrArg Int32.toInt ea25_30
          intro a26_31 ea26_31 
          have ga26_31 := congrArg Int32.toInt ea26_31
          refine ih74 g ?_ ?_ ?_
          · have s32_ := (g.row (y11_.ref (y11_.ptr ptrC_39) (y11_.2.1 _ finC_31).2.1)).2
            have s33_ := g.smk
            unfold SmK at s33_
            have n1_ := rgI a26_31
            have n2_ := rgI v74_4
            have n3_ := rgI (qI U74 (qO U74 66 0) 9)
            have n4_ := rgI a23_1
            have n5_ := rgI (fX8_catchHas U74 (qO U74 66 0) v74_4 v74_1)
            have n6_ := rgI r34_11
            have n7_ := rgI a25_30
            have n8_ := rgI (v74_2 ||| (1 : Int32))
            have n10_ := lo_1k
            have n10_ := t_addD (a := v74_4) (b := Int32.ofInt 1)
            have n11_ := rgI (v74_4 + Int32.ofInt 1)
            omega
          · exact (by rw [ea25_30]; exact (bit_or j1_ (Or.inr rfl)))
          · have s34_ := (g.row (y11_.ref (y11_.ptr ptrC_39) (y11_.2.1 _ finC_31).2.1)).2
            have s35_ := g.smk
            unfold SmK at s35_
            have n1_ := rgI a26_31
            have n2_ := rgI v74_4
            have n3_ := rgI (qI U74 (qO U74 66 0) 9)
            have n4_ := rgI a23_1
            have n5_ := rgI (fX8_catchHas U74 (qO U74 66 0) v74_4 v74_1)
            have n6_ := rgI r34_11
            have n7_ := rgI a25_30
            have n8_ := rgI (v74_2 ||| (1 : Int32))
            have n10_ := lo_1k
            have n10_ := t_addD (a := v74_4) (b := Int32.ofInt 1)
            have n11_ := rgI (v74_4 + Int32.ofInt 1)
            omega
set_option maxRecDepth 100000 in
theorem sg_X9_reachFrom_L42 {B : Nat × Nat} : ∀ (n : Nat) {U42 : MS} {v42_1 : Int32} {v42_2 : Int32} {v42_3 : Int32} {v42_4 : Int32}, ShC B U42 → 0 ≤ v42_4.toInt → v42_2 = 0 ∨ v42_2 = 1 → 2147483648 - v42_4.toInt < n → w_X9_reachFrom_L42 (fun _ u => ShC B u ∧ (True)) n U42 v42_1 v42_2 v42_3 v42_4 := by
  intro n
  induction n with
  | zero => intro U42 v42_1 v42_2 v42_3 v42_4 g j0_ j1_ hm_; exfalso; have := rgI v42_1; have := rgI v42_2; have := rgI v42_3; have := rgI v42_4; omega
  | succ n ih42 =>
    intro U42 v42_1 v42_2 v42_3 v42_4 g j0_ j1_ hm_
    unfold w_X9_reachFrom_L42
    intro y13_
    refine ⟨fun c36_ => ?_, fun c36_ => ?_⟩
    · refine ⟨(2147483648 - (0 : Int32).toInt).toNat + 1, ?_⟩
      refine sg_X9_reachFrom_L74  _ g ?_ ?_ ?_
      · have s37_ := (g.row (y13_.ref (y13_.ptr ptrC_39) (y13_.2.1 _ finC_31).2.1)).2
        have s38_ := g.smk
        unfold SmK at s38_
        have n1_ := li_0k
        have n2_ := rgI v42_4
        have n3_ := rgI v42_3
        omega
      · exact j1_
      · have s39_ := (g.row (y13_.ref (y13_.ptr ptrC_39) (y13_.2.1 _ finC_31).2.1)).2
        have s40_ := g.smk
        unfold SmK at s40_
        have n1_ := li_0k
        have n2_ := rgI v42_4
        have n3_ := rgI v42_3
        omega
    · refine ⟨?_, ?_⟩
      · exact (dd_X8_targetAt y13_ g (y13_.ref (y13_.ptr ptrC_39) (y13_.2.1 _ finC_31).2.1))
      intro a42_41 ea42_41 
      have ga42_41 := congrArg Int32.toInt ea42_41
      refine ⟨_, frX9_isNewlyReached y13_ (sgX9_isNewlyReached y13_ g), ?_⟩
      intro r44_42 S45_42 q14_ y15_ y16_
      have o43_ : qO S45_42 66 0 = qO U42 66 0 := qO_eq (q14_.2.kO (y13_.2.1 _ finC_31).2.1 (by decide) (by decide))
      have t44_ : (qI S45_42 (qO S45_42 66 0) 4).toInt = (qI U42 (qO U42 66 0) 4).toInt := by rw [o43_]; exact congrArg Int32.toInt (q14_.2.kI (j := 4) (y13_.ref (y13_.ptr ptrC_39) (y13_.2.1 _ finC_31).2.1) (by decide) (by decide))
      have t45_ : (qI S45_42 (qO S45_42 66 0) 9).toInt = (qI U42 (qO U42 66 0) 9).toInt := by rw [o43_]; exact congrArg Int32.toInt (q14_.2.kI (j := 9) (y13_.ref (y13_.ptr ptrC_39) (y13_.2.1 _ finC_31).2.1) (by decide) (by decide))
      have t46_ : (qI S45_42 (qO S45_42 66 0) 2).toInt = (qI U42 (qO U42 66 0) 2).toInt := by rw [o43_]; exact congrArg Int32.toInt (q14_.2.kI (j := 2) (y13_.ref (y13_.ptr ptrC_39) (y13_.2.1 _ finC_31).2.1) (by decide) (by decide))
      have t47_ : (qN S45_42 (qO S45_42 (qO S45_42 66 0) 1) : Int) = (qN U42 (qO U42 (qO U42 66 0) 1) : Int) := by rw [o43_]; exact q14_.2.kL (j := 1) y13_ (y13_.ref (y13_.ptr ptrC_39) (y13_.2.1 _ finC_31).2.1) (g.row (y13_.ref (y13_.ptr ptrC_39) (y13_.2.1 _ finC_31).2.1)).1.2.1 (by decide) (by decide)
      have t48_ : (qN S45_42 (qO S45_42 (qO S45_42 66 0) 8) : Int) = (qN U42 (qO U42 (qO U42 66 0) 8) : Int) := by rw [o43_]; exact q14_.2.kL (j := 8) y13_ (y13_.ref (y13_.ptr ptrC_39) (y13_.2.1 _ finC_31).2.1) (g.row (y13_.ref (y13_.ptr ptrC_39) (y13_.2.1 _ finC_31).2.1)).1.2.2.2.2.2.2 (by decide) (by decide)
      have t49_ : (qN S45_42 (qO S45_42 (qO S45_42 66 0) 7) : Int) = (qN U42 (qO U42 (qO U42 66 0) 7) : Int) := by rw [o43_]; exact q14_.2.kL (j := 7) y13_ (y13_.ref (y13_.ptr ptrC_39) (y13_.2.1 _ finC_31).2.1) (g.row (y13_.ref (y13_.ptr ptrC_39) (y13_.2.1 _ finC_31).2.1)).1.2.2.2.2.2.1 (by decide) (by decide)
      have t50_ : (qN S45_42 (qO S45_42 (qO S45_42 66 0) 0) : Int) = (qN U42 (qO U42 (qO U42 66 0) 0) : Int) := by rw [o43_]; exact q14_.2.kL (j := 0) y13_ (y13_.ref (y13_.ptr ptrC_39) (y13_.2.1 _ finC_31).2.1) (g.row (y13_.ref (y13_.ptr ptrC_39) (y13_.2.1 _ finC_31).2.1)).1.1 (by decide) (by decide)
      have t51_ : (qN S45_42 (qO S45_42 (qO S45_42 66 0) 6) : Int) = (qN U42 (qO U42 (qO U42 66 0) 6) : Int) := by rw [o43_]; exact q14_.2.kL (j := 6) y13_ (y13_.ref (y13_.ptr ptrC_39) (y13_.2.1 _ finC_31).2.1) (g.row (y13_.ref (y13_.ptr ptrC_39) (y13_.2.1 _ finC_31).2.1)).1.2.2.2.2.1 (by decide) (by decide)
      have t52_ : (qN S45_42 (qO S45_42 (qO S45_42 66 0) 3) : Int) = (qN U42 (qO U42 (qO U42 66 0) 3) : Int) := by rw [o43_]; exact q14_.2.kL (j := 3) y13_ (y13_.ref (y13_.ptr ptrC_39) (y13_.2.1 _ finC_31).2.1) (g.row (y13_.ref (y13_.ptr ptrC_39) (y13_.2.1 _ finC_31).2.1)).1.2.2.1 (by decide) (by decide)
      have t53_ : (qN S45_42 (qO S45_42 (qO S45_42 66 0) 5) : Int) = (qN U42 (qO U42 (qO U42 66 0) 5) : Int) := by rw [o43_]; exact q14_.2.kL (j := 5) y13_ (y13_.ref (y13_.ptr ptrC_39) (y13_.2.1 _ finC_31).2.1) (g.row (y13_.ref (y13_.ptr ptrC_39) (y13_.2.1 _ finC_31).2.1)).1.2.2.2.1 (by decide) (by decide)
      have g : ShC B S45_42 := q14_.1.1
      have zq14_ : r44_42 = 0 ∨ r44_42 = 1 := q14_.1.2
      intro a48_54 ea48_54 
      have ga48_54 := congrArg Int32.toInt ea48_54
      intro a49_55 ea49_55 
      have ga49_55 := congrArg Int32.toInt ea49_55
      refine ih42 g ?_ ?_ ?_
      · have s56_ := (g.row (y15_.ref (y15_.ptr ptrC_39) (y15_.2.1 _ finC_31).2.1)).2
        have s57_ := g.smk
        unfold SmK at s57_
        have n1_ := rgI a49_55
        have n2_ := rgI v42_4
        have n3_ := rgI v42_3
        have n4_ := rgI a42_41
        have n5_ := rgI (fX8_targetAt U42 (qO U42 66 0) v42_1 v42_4)
        have n6_ := rgI a48_54
        have n7_ := rgI (v42_2 ||| r44_42)
        have n9_ := lo_1k
        have n9_ := t_addD (a := v42_4) (b := Int32.ofInt 1)
        have n10_ := rgI (v42_4 + Int32.ofInt 1)
        omega
      · exact (by rw [ea48_54]; exact (bit_or j1_ zq14_))
      · have s58_ := (g.row (y15_.ref (y15_.ptr ptrC_39) (y15_.2.1 _ finC_31).2.1)).2
        have s59_ := g.smk
        unfold SmK at s59_
        have n1_ := rgI a49_55
        have n2_ := rgI v42_4
        have n3_ := rgI v42_3
        have n4_ := rgI a42_41
        have n5_ := rgI (fX8_targetAt U42 (qO U42 66 0) v42_1 v42_4)
        have n6_ := rgI a48_54
        have n7_ := rgI (v42_2 ||| r44_42)
        have n9_ := lo_1k
        have n9_ := t_addD (a := v42_4) (b := Int32.ofInt 1)
        have n10_ := rgI (v42_4 + Int32.ofInt 1)
        omega
set_option maxRecDepth 100000 in
theorem sgX9_reachFrom {B : Nat × Nat} {S : MS} {x1 : Int32} (hw : wfC S) (g : ShC B S) : wX9_reachFrom S x1 (fun _ u => ShC B u ∧ (True)) := by
  unfold wX9_reachFrom
  refine ⟨?_, ?_⟩
  · exact (dd_X8_opAt hw g (hw.ref (hw.ptr ptrC_39) (hw.2.1 _ finC_31).2.1))
  intro a5_60 ea5_60 
  have ga5_60 := congrArg Int32.toInt ea5_60
  refine ⟨?_, ?_⟩
  · exact dd_X6_goesOn
  intro a9_61 ea9_61 
  have ga9_61 := congrArg Int32.toInt ea9_61
  refine ⟨fun c62_ => ?_, fun c62_ => ?_⟩
  · unfold w_X9_reachFrom_J28
    intro y17_
    unfold w_X9_reachFrom_J29
    intro y18_ y19_
    refine ⟨?_, ?_⟩
    · exact (dd_X8_targetCount y18_ g (y18_.ref (y18_.ptr ptrC_39) (y18_.2.1 _ finC_31).2.1))
    intro a14_63 ea14_63 
    have ga14_63 := congrArg Int32.toInt ea14_63
    refine ⟨(2147483648 - (0 : Int32).toInt).toNat + 1, ?_⟩
    refine sg_X9_reachFrom_L42  _ g ?_ ?_ ?_
    · have s64_ := (g.row (y18_.ref (y18_.ptr ptrC_39) (y18_.2.1 _ finC_31).2.1)).2
      have s65_ := g.smk
      unfold SmK at s65_
      have n1_ := li_0k
      have n2_ := rgI a5_60
      have n3_ := rgI (fX8_opAt S (qO S 66 0) x1)
      have n4_ := rgI a9_61
      have n5_ := rgI (fX6_goesOn S a5_60)
      have n6_ := rgI a14_63
      have n7_ := rgI (fX8_targetCount S (qO S 66 0) x1)
      omega
    · exact (Or.inl rfl)
    · have s66_ := (g.row (y18_.ref (y18_.ptr ptrC_39) (y18_.2.1 _ finC_31).2.1)).2
      have s67_ := g.smk
      unfold SmK at s67_
      have n1_ := li_0k
      have n2_ := rgI a5_60
      have n3_ := rgI (fX8_opAt S (qO S 66 0) x1)
      have n4_ := rgI a9_61
      have n5_ := rgI (fX6_goesOn S a5_60)
      have n6_ := rgI a14_63
      have n7_ := rgI (fX8_targetCount S (qO S 66 0) x1)
      omega
  · refine ⟨_, frX9_isNewlyReached hw (sgX9_isNewlyReached hw g), ?_⟩
    intro r53_68 S54_68 q20_ y21_ y22_
    have o69_ : qO S54_68 66 0 = qO S 66 0 := qO_eq (q20_.2.kO (hw.2.1 _ finC_31).2.1 (by decide) (by decide))
    have t70_ : (qI S54_68 (qO S54_68 66 0) 4).toInt = (qI S (qO S 66 0) 4).toInt := by rw [o69_]; exact congrArg Int32.toInt (q20_.2.kI (j := 4) (hw.ref (hw.ptr ptrC_39) (hw.2.1 _ finC_31).2.1) (by decide) (by decide))
    have t71_ : (qI S54_68 (qO S54_68 66 0) 9).toInt = (qI S (qO S 66 0) 9).toInt := by rw [o69_]; exact congrArg Int32.toInt (q20_.2.kI (j := 9) (hw.ref (hw.ptr ptrC_39) (hw.2.1 _ finC_31).2.1) (by decide) (by decide))
    have t72_ : (qI S54_68 (qO S54_68 66 0) 2).toInt = (qI S (qO S 66 0) 2).toInt := by rw [o69_]; exact congrArg Int32.toInt (q20_.2.kI (j := 2) (hw.ref (hw.ptr ptrC_39) (hw.2.1 _ finC_31).2.1) (by decide) (by decide))
    have t73_ : (qN S54_68 (qO S54_68 (qO S54_68 66 0) 1) : Int) = (qN S (qO S (qO S 66 0) 1) : Int) := by rw [o69_]; exact q20_.2.kL (j := 1) hw (hw.ref (hw.ptr ptrC_39) (hw.2.1 _ finC_31).2.1) (g.row (hw.ref (hw.ptr ptrC_39) (hw.2.1 _ finC_31).2.1)).1.2.1 (by decide) (by decide)
    have t74_ : (qN S54_68 (qO S54_68 (qO S54_68 66 0) 8) : Int) = (qN S (qO S (qO S 66 0) 8) : Int) := by rw [o69_]; exact q20_.2.kL (j := 8) hw (hw.ref (hw.ptr ptrC_39) (hw.2.1 _ finC_31).2.1) (g.row (hw.ref (hw.ptr ptrC_39) (hw.2.1 _ finC_31).2.1)).1.2.2.2.2.2.2 (by decide) (by decide)
    have t75_ : (qN S54_68 (qO S54_68 (qO S54_68 66 0) 7) : Int) = (qN S (qO S (qO S 66 0) 7) : Int) := by rw [o69_]; exact q20_.2.kL (j := 7) hw (hw.ref (hw.ptr ptrC_39) (hw.2.1 _ finC_31).2.1) (g.row (hw.ref (hw.ptr ptrC_39) (hw.2.1 _ finC_31).2.1)).1.2.2.2.2.2.1 (by decide) (by decide)
    have t76_ : (qN S54_68 (qO S54_68 (qO S54_68 66 0) 0) : Int) = (qN S (qO S (qO S 66 0) 0) : Int) := by rw [o69_]; exact q20_.2.kL (j := 0) hw (hw.ref (hw.ptr ptrC_39) (hw.2.1 _ finC_31).2.1) (g.row (hw.ref (hw.ptr ptrC_39) (hw.2.1 _ finC_31).2.1)).1.1 (by decide) (by decide)
    have t77_ : (qN S54_68 (qO S54_68 (qO S54_68 66 0) 6) : Int) = (qN S (qO S (qO S 66 0) 6) : Int) := by rw [o69_]; exact q20_.2.kL (j := 6) hw (hw.ref (hw.ptr ptrC_39) (hw.2.1 _ finC_31).2.1) (g.row (hw.ref (hw.ptr ptrC_39) (hw.2.1 _ finC_31).2.1)).1.2.2.2.2.1 (by decide) (by decide)
    have t78_ : (qN S54_68 (qO S54_68 (qO S54_68 66 0) 3) : Int) = (qN S (qO S (qO S 66 0) 3) : Int) := by rw [o69_]; exact q20_.2.kL (j := 3) hw (hw.ref (hw.ptr ptrC_39) (hw.2.1 _ finC_31).2.1) (g.row (hw.ref (hw.ptr ptrC_39) (hw.2.1 _ finC_31).2.1)).1.2.2.1 (by decide) (by decide)
    have t79_ : (qN S54_68 (qO S54_68 (qO S54_68 66 0) 5) : Int) = (qN S (qO S (qO S 66 0) 5) : Int) := by rw [o69_]; exact q20_.2.kL (j := 5) hw (hw.ref (hw.ptr ptrC_39) (hw.2.1 _ finC_31).2.1) (g.row (hw.ref (hw.ptr ptrC_39) (hw.2.1 _ finC_31).2.1)).1.2.2.2.1 (by decide) (by decide)
    have g : ShC B S54_68 := q20_.1.1
    have zq20_ : r53_68 = 0 ∨ r53_68 = 1 := q20_.1.2
    refine ⟨fun c80_ => ?_, fun c80_ => ?_⟩
    · unfold w_X9_reachFrom_J28
      intro y23_
      unfold w_X9_reachFrom_J29
      intro y24_ y25_
      refine ⟨?_, ?_⟩
      · exact (dd_X8_targetCount y24_ g (y24_.ref (y24_.ptr ptrC_39) (y24_.2.1 _ finC_31).2.1))
      intro a14_81 ea14_81 
      have ga14_81 := congrArg Int32.toInt ea14_81
      refine ⟨(2147483648 - (0 : Int32).toInt).toNat + 1, ?_⟩
      refine sg_X9_reachFrom_L42  _ g ?_ ?_ ?_
      · have s82_ := (g.row (y24_.ref (y24_.ptr ptrC_39) (y24_.2.1 _ finC_31).2.1)).2
        have s83_ := g.smk
        unfold SmK at s83_
        have n1_ := li_0k
        have n2_ := rgI a5_60
        have n3_ := rgI (fX8_opAt S (qO S 66 0) x1)
        have n4_ := rgI a9_61
        have n5_ := rgI (fX6_goesOn S a5_60)
        have n6_ := rgI r53_68
        have n7_ := rgI a14_81
        have n8_ := rgI (fX8_targetCount S54_68 (qO S54_68 66 0) x1)
        omega
      · exact (Or.inl rfl)
      · have s84_ := (g.row (y24_.ref (y24_.ptr ptrC_39) (y24_.2.1 _ finC_31).2.1)).2
        have s85_ := g.smk
        unfold SmK at s85_
        have n1_ := li_0k
        have n2_ := rgI a5_60
        have n3_ := rgI (fX8_opAt S (qO S 66 0) x1)
        have n4_ := rgI a9_61
        have n5_ := rgI (fX6_goesOn S a5_60)
        have n6_ := rgI r53_68
        have n7_ := rgI a14_81
        have n8_ := rgI (fX8_targetCount S54_68 (qO S54_68 66 0) x1)
        omega
    · unfold w_X9_reachFrom_J29
      intro y26_ y27_
      refine ⟨?_, ?_⟩
      · exact (dd_X8_targetCount y26_ g (y26_.ref (y26_.ptr ptrC_39) (y26_.2.1 _ finC_31).2.1))
      intro a14_86 ea14_86 
      have ga14_86 := congrArg Int32.toInt ea14_86
      refine ⟨(2147483648 - (0 : Int32).toInt).toNat + 1, ?_⟩
      refine sg_X9_reachFrom_L42  _ g ?_ ?_ ?_
      · have s87_ := (g.row (y26_.ref (y26_.ptr ptrC_39) (y26_.2.1 _ finC_31).2.1)).2
        have s88_ := g.smk
        unfold SmK at s88_
        have n1_ := li_0k
        have n2_ := rgI a5_60
        have n3_ := rgI (fX8_opAt S (qO S 66 0) x1)
        have n4_ := rgI a9_61
        have n5_ := rgI (fX6_goesOn S a5_60)
        have n6_ := rgI r53_68
        have n7_ := rgI a14_86
        have n8_ := rgI (fX8_targetCount S54_68 (qO S54_68 66 0) x1)
        omega
      · exact (Or.inr rfl)
      · have s89_ := (g.row (y26_.ref (y26_.ptr ptrC_39) (y26_.2.1 _ finC_31).2.1)).2
        have s90_ := g.smk
        unfold SmK at s90_
        have n1_ := li_0k
        have n2_ := rgI a5_60
        have n3_ := rgI (fX8_opAt S (qO S 66 0) x1)
        have n4_ := rgI a9_61
        have n5_ := rgI (fX6_goesOn S a5_60)
        have n6_ := rgI r53_68
        have n7_ := rgI a14_86
        have n8_ := rgI (fX8_targetCount S54_68 (qO S54_68 66 0) x1)
        omega
set_option maxRecDepth 100000 in
theorem sg_X9_findMarked_L80 {B : Nat × Nat} : ∀ (n : Nat) {U80 : MS} {v80_1 : Int32}, ShC B U80 → 0 ≤ v80_1.toInt → 2147483648 - v80_1.toInt < n → w_X9_findMarked_L80 (fun u => ShC B u ∧ (True)) n U80 v80_1 := by
  intro n
  induction n with
  | zero => intro U80 v80_1 g j0_ hm_; exfalso; have := rgI v80_1; omega
  | succ n ih80 =>
    intro U80 v80_1 g j0_ hm_
    unfold w_X9_findMarked_L80
    intro y1_
    refine ⟨fun c0_ => ?_, fun c0_ => ?_⟩
    · exact ⟨g, trivial⟩
    · refine ⟨?_, ?_⟩
      · exact (g.row (y1_.ref (y1_.ptr ptrC_39) (y1_.2.1 _ finC_31).2.1)).1.2.2.2.1
      refine ⟨?_, ?_⟩
      · have s1_ := (g.row (y1_.ref (y1_.ptr ptrC_39) (y1_.2.1 _ finC_31).2.1)).2
        have s2_ := y1_.len9 (y1_.ref (y1_.ptr ptrC_35) (y1_.2.1 _ finC_31).2.1) (by decide)
        have s3_ := g.smk
        unfold SmK at s3_
        have n1_ := rgI v80_1
        have n2_ := rgI (qI U80 (qO U80 66 0) 9)
        omega
      refine ⟨_, frX9_mark y1_ (sfX9_mark y1_ ), ?_⟩
      intro S14_4 q2_ y3_ y4_
      have o5_ : qO S14_4 66 0 = qO U80 66 0 := qO_eq (q2_.2.kO (y1_.2.1 _ finC_31).2.1 (by decide) (by decide))
      have t6_ : (qI S14_4 (qO S14_4 66 0) 2).toInt = (qI U80 (qO U80 66 0) 2).toInt := by rw [o5_]; exact congrArg Int32.toInt (q2_.2.kI (j := 2) (y1_.ref (y1_.ptr ptrC_39) (y1_.2.1 _ finC_31).2.1) (by decide) (by decide))
      have t7_ : (qI S14_4 (qO S14_4 66 0) 9).toInt = (qI U80 (qO U80 66 0) 9).toInt := by rw [o5_]; exact congrArg Int32.toInt (q2_.2.kI (j := 9) (y1_.ref (y1_.ptr ptrC_39) (y1_.2.1 _ finC_31).2.1) (by decide) (by decide))
      have t8_ : (qI S14_4 (qO S14_4 66 0) 4).toInt = (qI U80 (qO U80 66 0) 4).toInt := by rw [o5_]; exact congrArg Int32.toInt (q2_.2.kI (j := 4) (y1_.ref (y1_.ptr ptrC_39) (y1_.2.1 _ finC_31).2.1) (by decide) (by decide))
      have t9_ : (qN S14_4 (qO S14_4 (qO S14_4 66 0) 1) : Int) = (qN U80 (qO U80 (qO U80 66 0) 1) : Int) := by rw [o5_]; exact q2_.2.kL (j := 1) y1_ (y1_.ref (y1_.ptr ptrC_39) (y1_.2.1 _ finC_31).2.1) (g.row (y1_.ref (y1_.ptr ptrC_39) (y1_.2.1 _ finC_31).2.1)).1.2.1 (by decide) (by decide)
      have t10_ : (qN S14_4 (qO S14_4 (qO S14_4 66 0) 8) : Int) = (qN U80 (qO U80 (qO U80 66 0) 8) : Int) := by rw [o5_]; exact q2_.2.kL (j := 8) y1_ (y1_.ref (y1_.ptr ptrC_39) (y1_.2.1 _ finC_31).2.1) (g.row (y1_.ref (y1_.ptr ptrC_39) (y1_.2.1 _ finC_31).2.1)).1.2.2.2.2.2.2 (by decide) (by decide)
      have t11_ : (qN S14_4 (qO S14_4 (qO S14_4 66 0) 7) : Int) = (qN U80 (qO U80 (qO U80 66 0) 7) : Int) := by rw [o5_]; exact q2_.2.kL (j := 7) y1_ (y1_.ref (y1_.ptr ptrC_39) (y1_.2.1 _ finC_31).2.1) (g.row (y1_.ref (y1_.ptr ptrC_39) (y1_.2.1 _ finC_31).2.1)).1.2.2.2.2.2.1 (by decide) (by decide)
      have t12_ : (qN S14_4 (qO S14_4 (qO S14_4 66 0) 0) : Int) = (qN U80 (qO U80 (qO U80 66 0) 0) : Int) := by rw [o5_]; exact q2_.2.kL (j := 0) y1_ (y1_.ref (y1_.ptr ptrC_39) (y1_.2.1 _ finC_31).2.1) (g.row (y1_.ref (y1_.ptr ptrC_39) (y1_.2.1 _ finC_31).2.1)).1.1 (by decide) (by decide)
      have t13_ : (qN S14_4 (qO S14_4 (qO S14_4 66 0) 6) : Int) = (qN U80 (qO U80 (qO U80 66 0) 6) : Int) := by rw [o5_]; exact q2_.2.kL (j := 6) y1_ (y1_.ref (y1_.ptr ptrC_39) (y1_.2.1 _ finC_31).2.1) (g.row (y1_.ref (y1_.ptr ptrC_39) (y1_.2.1 _ finC_31).2.1)).1.2.2.2.2.1 (by decide) (by decide)
      have t14_ : (qN S14_4 (qO S14_4 (qO S14_4 66 0) 3) : Int) = (qN U80 (qO U80 (qO U80 66 0) 3) : Int) := by rw [o5_]; exact q2_.2.kL (j := 3) y1_ (y1_.ref (y1_.ptr ptrC_39) (y1_.2.1 _ finC_31).2.1) (g.row (y1_.ref (y1_.ptr ptrC_39) (y1_.2.1 _ finC_31).2.1)).1.2.2.1 (by decide) (by decide)
      have t15_ : (qN S14_4 (qO S14_4 (qO S14_4 66 0) 5) : Int) = (qN U80 (qO U80 (qO U80 66 0) 5) : Int) := by rw [o5_]; exact q2_.2.kL (j := 5) y1_ (y1_.ref (y1_.ptr ptrC_39) (y1_.2.1 _ finC_31).2.1) (g.row (y1_.ref (y1_.ptr ptrC_39) (y1_.2.1 _ finC_31).2.1)).1.2.2.2.1 (by decide) (by decide)
      have t16_ : (qN S14_4 (qO S14_4 66 2) : Int) = (qN U80 (qO U80 66 2) : Int) := q2_.2.kL (j := 2) y1_ (y1_.2.1 _ finC_31).2.1 (y1_.ptr ptrC_35) (by decide) (by decide)
      have g : ShC B S14_4 := ShC.ca y1_ g q2_.2 y4_ y3_ rfl rfl
      refine ⟨?_, ?_⟩
      · exact (g.row (y3_.ref (y3_.ptr ptrC_39) (y3_.2.1 _ finC_31).2.1)).1.2.2.2.2.1
      refine ⟨?_, ?_⟩
      · have s17_ := (g.row (y3_.ref (y3_.ptr ptrC_39) (y3_.2.1 _ finC_31).2.1)).2
        have s18_ := y3_.len9 (y3_.ref (y3_.ptr ptrC_35) (y3_.2.1 _ finC_31).2.1) (by decide)
        have s19_ := g.smk
        unfold SmK at s19_
        have n1_ := rgI v80_1
        have n2_ := rgI (qI U80 (qO U80 66 0) 9)
        omega
      refine ⟨_, frX9_mark y3_ (sfX9_mark y3_ ), ?_⟩
      intro S22_20 q5_ y6_ y7_
      have o21_ : qO S22_20 66 0 = qO S14_4 66 0 := qO_eq (q5_.2.kO (y3_.2.1 _ finC_31).2.1 (by decide) (by decide))
      have t22_ : (qI S22_20 (qO S22_20 66 0) 2).toInt = (qI S14_4 (qO S14_4 66 0) 2).toInt := by rw [o21_]; exact congrArg Int32.toInt (q5_.2.kI (j := 2) (y3_.ref (y3_.ptr ptrC_39) (y3_.2.1 _ finC_31).2.1) (by decide) (by decide))
      have t23_ : (qI S22_20 (qO S22_20 66 0) 9).toInt = (qI S14_4 (qO S14_4 66 0) 9).toInt := by rw [o21_]; exact congrArg Int32.toInt (q5_.2.kI (j := 9) (y3_.ref (y3_.ptr ptrC_39) (y3_.2.1 _ finC_31).2.1) (by decide) (by decide))
      have t24_ : (qI S22_20 (qO S22_20 66 0) 4).toInt = (qI S14_4 (qO S14_4 66 0) 4).toInt := by rw [o21_]; exact congrArg Int32.toInt (q5_.2.kI (j := 4) (y3_.ref (y3_.ptr ptrC_39) (y3_.2.1 _ finC_31).2.1) (by decide) (by decide))
      have t25_ : (qN S22_20 (qO S22_20 (qO S22_20 66 0) 1) : Int) = (qN S14_4 (qO S14_4 (qO S14_4 66 0) 1) : Int) := by rw [o21_]; exact q5_.2.kL (j := 1) y3_ (y3_.ref (y3_.ptr ptrC_39) (y3_.2.1 _ finC_31).2.1) (g.row (y3_.ref (y3_.ptr ptrC_39) (y3_.2.1 _ finC_31).2.1)).1.2.1 (by decide) (by decide)
      have t26_ : (qN S22_20 (qO S22_20 (qO S22_20 66 0) 8) : Int) = (qN S14_4 (qO S14_4 (qO S14_4 66 0) 8) : Int) := by rw [o21_]; exact q5_.2.kL (j := 8) y3_ (y3_.ref (y3_.ptr ptrC_39) (y3_.2.1 _ finC_31).2.1) (g.row (y3_.ref (y3_.ptr ptrC_39) (y3_.2.1 _ finC_31).2.1)).1.2.2.2.2.2.2 (by decide) (by decide)
      have t27_ : (qN S22_20 (qO S22_20 (qO S22_20 66 0) 7) : Int) = (qN S14_4 (qO S14_4 (qO S14_4 66 0) 7) : Int) := by rw [o21_]; exact q5_.2.kL (j := 7) y3_ (y3_.ref (y3_.ptr ptrC_39) (y3_.2.1 _ finC_31).2.1) (g.row (y3_.ref (y3_.ptr ptrC_39) (y3_.2.1 _ finC_31).2.1)).1.2.2.2.2.2.1 (by decide) (by decide)
      have t28_ : (qN S22_20 (qO S22_20 (qO S22_20 66 0) 0) : Int) = (qN S14_4 (qO S14_4 (qO S14_4 66 0) 0) : Int) := by rw [o21_]; exact q5_.2.kL (j := 0) y3_ (y3_.ref (y3_.ptr ptrC_39) (y3_.2.1 _ finC_31).2.1) (g.row (y3_.ref (y3_.ptr ptrC_39) (y3_.2.1 _ finC_31).2.1)).1.1 (by decide) (by decide)
      have t29_ : (qN S22_20 (qO S22_20 (qO S22_20 66 0) 6) : Int) = (qN S14_4 (qO S14_4 (qO S14_4 66 0) 6) : Int) := by rw [o21_]; exact q5_.2.kL (j := 6) y3_ (y3_.ref (y3_.ptr ptrC_39) (y3_.2.1 _ finC_31).2.1) (g.row (y3_.ref (y3_.ptr ptrC_39) (y3_.2.1 _ finC_31).2.1)).1.2.2.2.2.1 (by decide) (by decide)
      have t30_ : (qN S22_20 (qO S22_20 (qO S22_20 66 0) 3) : Int) = (qN S14_4 (qO S14_4 (qO S14_4 66 0) 3) : Int) := by rw [o21_]; exact q5_.2.kL (j := 3) y3_ (y3_.ref (y3_.ptr ptrC_39) (y3_.2.1 _ finC_31).2.1) (g.row (y3_.ref (y3_.ptr ptrC_39) (y3_.2.1 _ finC_31).2.1)).1.2.2.1 (by decide) (by decide)
      have t31_ : (qN S22_20 (qO S22_20 (qO S22_20 66 0) 5) : Int) = (qN S14_4 (qO S14_4 (qO S14_4 66 0) 5) : Int) := by rw [o21_]; exact q5_.2.kL (j := 5) y3_ (y3_.ref (y3_.ptr ptrC_39) (y3_.2.1 _ finC_31).2.1) (g.row (y3_.ref (y3_.ptr ptrC_39) (y3_.2.1 _ finC_31).2.1)).1.2.2.2.1 (by decide) (by decide)
      have t32_ : (qN S22_20 (qO S22_20 66 2) : Int) = (qN S14_4 (qO S14_4 66 2) : Int) := q5_.2.kL (j := 2) y3_ (y3_.2.1 _ finC_31).2.1 (y3_.ptr ptrC_35) (by decide) (by decide)
      have g : ShC B S22_20 := ShC.ca y3_ g q5_.2 y7_ y6_ rfl rfl
      refine ⟨?_, ?_⟩
      · exact (g.row (y6_.ref (y6_.ptr ptrC_39) (y6_.2.1 _ finC_31).2.1)).1.2.2.2.2.2.1
      refine ⟨?_, ?_⟩
      · have s33_ := (g.row (y6_.ref (y6_.ptr ptrC_39) (y6_.2.1 _ finC_31).2.1)).2
        have s34_ := y6_.len9 (y6_.ref (y6_.ptr ptrC_35) (y6_.2.1 _ finC_31).2.1) (by decide)
        have s35_ := g.smk
        unfold SmK at s35_
        have n1_ := rgI v80_1
        have n2_ := rgI (qI U80 (qO U80 66 0) 9)
        omega
      refine ⟨_, frX9_mark y6_ (sfX9_mark y6_ ), ?_⟩
      intro S30_36 q8_ y9_ y10_
      have o37_ : qO S30_36 66 0 = qO S22_20 66 0 := qO_eq (q8_.2.kO (y6_.2.1 _ finC_31).2.1 (by decide) (by decide))
      have t38_ : (qI S30_36 (qO S30_36 66 0) 2).toInt = (qI S22_20 (qO S22_20 66 0) 2).toInt := by rw [o37_]; exact congrArg Int32.toInt (q8_.2.kI (j := 2) (y6_.ref (y6_.ptr ptrC_39) (y6_.2.1 _ finC_31).2.1) (by decide) (by decide))
      have t39_ : (qI S30_36 (qO S30_36 66 0) 9).toInt = (qI S22_20 (qO S22_20 66 0) 9).toInt := by rw [o37_]; exact congrArg Int32.toInt (q8_.2.kI (j := 9) (y6_.ref (y6_.ptr ptrC_39) (y6_.2.1 _ finC_31).2.1) (by decide) (by decide))
      have t40_ : (qI S30_36 (qO S30_36 66 0) 4).toInt = (qI S22_20 (qO S22_20 66 0) 4).toInt := by rw [o37_]; exact congrArg Int32.toInt (q8_.2.kI (j := 4) (y6_.ref (y6_.ptr ptrC_39) (y6_.2.1 _ finC_31).2.1) (by decide) (by decide))
      have t41_ : (qN S30_36 (qO S30_36 (qO S30_36 66 0) 1) : Int) = (qN S22_20 (qO S22_20 (qO S22_20 66 0) 1) : Int) := by rw [o37_]; exact q8_.2.kL (j := 1) y6_ (y6_.ref (y6_.ptr ptrC_39) (y6_.2.1 _ finC_31).2.1) (g.row (y6_.ref (y6_.ptr ptrC_39) (y6_.2.1 _ finC_31).2.1)).1.2.1 (by decide) (by decide)
      have t42_ : (qN S30_36 (qO S30_36 (qO S30_36 66 0) 8) : Int) = (qN S22_20 (qO S22_20 (qO S22_20 66 0) 8) : Int) := by rw [o37_]; exact q8_.2.kL (j := 8) y6_ (y6_.ref (y6_.ptr ptrC_39) (y6_.2.1 _ finC_31).2.1) (g.row (y6_.ref (y6_.ptr ptrC_39) (y6_.2.1 _ finC_31).2.1)).1.2.2.2.2.2.2 (by decide) (by decide)
      have t43_ : (qN S30_36 (qO S30_36 (qO S30_36 66 0) 7) : Int) = (qN S22_20 (qO S22_20 (qO S22_20 66 0) 7) : Int) := by rw [o37_]; exact q8_.2.kL (j := 7) y6_ (y6_.ref (y6_.ptr ptrC_39) (y6_.2.1 _ finC_31).2.1) (g.row (y6_.ref (y6_.ptr ptrC_39) (y6_.2.1 _ finC_31).2.1)).1.2.2.2.2.2.1 (by decide) (by decide)
      have t44_ : (qN S30_36 (qO S30_36 (qO S30_36 66 0) 0) : Int) = (qN S22_20 (qO S22_20 (qO S22_20 66 0) 0) : Int) := by rw [o37_]; exact q8_.2.kL (j := 0) y6_ (y6_.ref (y6_.ptr ptrC_39) (y6_.2.1 _ finC_31).2.1) (g.row (y6_.ref (y6_.ptr ptrC_39) (y6_.2.1 _ finC_31).2.1)).1.1 (by decide) (by decide)
      have t45_ : (qN S30_36 (qO S30_36 (qO S30_36 66 0) 6) : Int) = (qN S22_20 (qO S22_20 (qO S22_20 66 0) 6) : Int) := by rw [o37_]; exact q8_.2.kL (j := 6) y6_ (y6_.ref (y6_.ptr ptrC_39) (y6_.2.1 _ finC_31).2.1) (g.row (y6_.ref (y6_.ptr ptrC_39) (y6_.2.1 _ finC_31).2.1)).1.2.2.2.2.1 (by decide) (by decide)
      have t46_ : (qN S30_36 (qO S30_36 (qO S30_36 66 0) 3) : Int) = (qN S22_20 (qO S22_20 (qO S22_20 66 0) 3) : Int) := by rw [o37_]; exact q8_.2.kL (j := 3) y6_ (y6_.ref (y6_.ptr ptrC_39) (y6_.2.1 _ finC_31).2.1) (g.row (y6_.ref (y6_.ptr ptrC_39) (y6_.2.1 _ finC_31).2.1)).1.2.2.1 (by decide) (by decide)
      have t47_ : (qN S30_36 (qO S30_36 (qO S30_36 66 0) 5) : Int) = (qN S22_20 (qO S22_20 (qO S22_20 66 0) 5) : Int) := by rw [o37_]; exact q8_.2.kL (j := 5) y6_ (y6_.ref (y6_.ptr ptrC_39) (y6_.2.1 _ finC_31).2.1) (g.row (y6_.ref (y6_.ptr ptrC_39) (y6_.2.1 _ finC_31).2.1)).1.2.2.2.1 (by decide) (by decide)
      have t48_ : (qN S30_36 (qO S30_36 66 2) : Int) = (qN S22_20 (qO S22_20 66 2) : Int) := q8_.2.kL (j := 2) y6_ (y6_.2.1 _ finC_31).2.1 (y6_.ptr ptrC_35) (by decide) (by decide)
      have g : ShC B S30_36 := ShC.ca y6_ g q8_.2 y10_ y9_ rfl rfl
      intro a32_49 ea32_49 
      have ga32_49 := congrArg Int32.toInt ea32_49
      refine ih80 g ?_ ?_
      · have s50_ := (g.row (y9_.ref (y9_.ptr ptrC_39) (y9_.2.1 _ finC_31).2.1)).2
        have s51_ := y9_.len9 (y9_.ref (y9_.ptr ptrC_35) (y9_.2.1 _ finC_31).2.1) (by decide)
        have s52_ := g.smk
        unfold SmK at s52_
        have n1_ := rgI a32_49
        have n2_ := rgI v80_1
        have n3_ := rgI (qI U80 (qO U80 66 0) 9)
        have n5_ := lo_1k
        have n5_ := t_addD (a := v80_1) (b := Int32.ofInt 1)
        have n6_ := rgI (v80_1 + Int32.ofInt 1)
        omega
      · have s53_ := (g.row (y9_.ref (y9_.ptr ptrC_39) (y9_.2.1 _ finC_31).2.1)).2
        have s54_ := y9_.len9 (y9_.ref (y9_.ptr ptrC_35) (y9_.2.1 _ finC_31).2.1) (by decide)
        have s55_ := g.smk
        unfold SmK at s55_
        have n1_ := rgI a32_49
        have n2_ := rgI v80_1
        have n3_ := rgI (qI U80 (qO U80 66 0) 9)
        have n5_ := lo_1k
        have n5_ := t_addD (a := v80_1) (b := Int32.ofInt 1)
        have n6_ := rgI (v80_1 + Int32.ofInt 1)
        omega
set_option maxRecDepth 100000 in
theorem sg_X9_findMarked_L48 {B : Nat × Nat} {k26 : MS → Int32 → Prop} {N26 : Nat} (hk26 : ∀ (U26 : MS) (v26_1 : Int32), ShC B U26 → 0 ≤ v26_1.toInt → 2147483648 - v26_1.toInt < N26 → k26 U26 v26_1) : ∀ (n : Nat) {U48 : MS} {v48_1 : Int32} {v48_2 : Int32} {v48_3 : Int32}, ShC B U48 → 0 ≤ v48_3.toInt → v48_1.toInt < 2147483647 → 2147483648 - v48_1.toInt ≤ N26 → 0 ≤ v48_1.toInt → 2147483648 - v48_3.toInt < n → w_X9_findMarked_L48 (fun u => ShC B u ∧ (True)) k26 n U48 v48_1 v48_2 v48_3 := by
  intro n
  induction n with
  | zero => intro U48 v48_1 v48_2 v48_3 g j0_ j1_ j2_ j3_ hm_; exfalso; have := rgI v48_1; have := rgI v48_2; have := rgI v48_3; omega
  | succ n ih48 =>
    intro U48 v48_1 v48_2 v48_3 g j0_ j1_ j2_ j3_ hm_
    unfold w_X9_findMarked_L48
    intro y11_
    refine ⟨fun c56_ => ?_, fun c56_ => ?_⟩
    · intro a39_57 ea39_57 
      have ga39_57 := congrArg Int32.toInt ea39_57
      refine hk26 _ _ g ?_ ?_
      · have s58_ := (g.row (y11_.ref (y11_.ptr ptrC_39) (y11_.2.1 _ finC_31).2.1)).2
        have s59_ := y11_.len9 (y11_.ref (y11_.ptr ptrC_35) (y11_.2.1 _ finC_31).2.1) (by decide)
        have s60_ := g.smk
        unfold SmK at s60_
        have n1_ := rgI a39_57
        have n2_ := rgI v48_3
        have n3_ := rgI v48_1
        have n4_ := rgI v48_2
        have n6_ := lo_1k
        have n6_ := t_addD (a := v48_1) (b := Int32.ofInt 1)
        have n7_ := rgI (v48_1 + Int32.ofInt 1)
        omega
      · have s61_ := (g.row (y11_.ref (y11_.ptr ptrC_39) (y11_.2.1 _ finC_31).2.1)).2
        have s62_ := y11_.len9 (y11_.ref (y11_.ptr ptrC_35) (y11_.2.1 _ finC_31).2.1) (by decide)
        have s63_ := g.smk
        unfold SmK at s63_
        have n1_ := rgI a39_57
        have n2_ := rgI v48_3
        have n3_ := rgI v48_1
        have n4_ := rgI v48_2
        have n6_ := lo_1k
        have n6_ := t_addD (a := v48_1) (b := Int32.ofInt 1)
        have n7_ := rgI (v48_1 + Int32.ofInt 1)
        omega
    · refine ⟨?_, ?_⟩
      · exact (dd_X8_targetAt y11_ g (y11_.ref (y11_.ptr ptrC_39) (y11_.2.1 _ finC_31).2.1))
      intro a44_64 ea44_64 
      have ga44_64 := congrArg Int32.toInt ea44_64
      refine ⟨_, frX9_mark y11_ (sfX9_mark y11_ ), ?_⟩
      intro S46_65 q12_ y13_ y14_
      have o66_ : qO S46_65 66 0 = qO U48 66 0 := qO_eq (q12_.2.kO (y11_.2.1 _ finC_31).2.1 (by decide) (by decide))
      have t67_ : (qI S46_65 (qO S46_65 66 0) 2).toInt = (qI U48 (qO U48 66 0) 2).toInt := by rw [o66_]; exact congrArg Int32.toInt (q12_.2.kI (j := 2) (y11_.ref (y11_.ptr ptrC_39) (y11_.2.1 _ finC_31).2.1) (by decide) (by decide))
      have t68_ : (qI S46_65 (qO S46_65 66 0) 9).toInt = (qI U48 (qO U48 66 0) 9).toInt := by rw [o66_]; exact congrArg Int32.toInt (q12_.2.kI (j := 9) (y11_.ref (y11_.ptr ptrC_39) (y11_.2.1 _ finC_31).2.1) (by decide) (by decide))
      have t69_ : (qI S46_65 (qO S46_65 66 0) 4).toInt = (qI U48 (qO U48 66 0) 4).toInt := by rw [o66_]; exact congrArg Int32.toInt (q12_.2.kI (j := 4) (y11_.ref (y11_.ptr ptrC_39) (y11_.2.1 _ finC_31).2.1) (by decide) (by decide))
      have t70_ : (qN S46_65 (qO S46_65 (qO S46_65 66 0) 1) : Int) = (qN U48 (qO U48 (qO U48 66 0) 1) : Int) := by rw [o66_]; exact q12_.2.kL (j := 1) y11_ (y11_.ref (y11_.ptr ptrC_39) (y11_.2.1 _ finC_31).2.1) (g.row (y11_.ref (y11_.ptr ptrC_39) (y11_.2.1 _ finC_31).2.1)).1.2.1 (by decide) (by decide)
      have t71_ : (qN S46_65 (qO S46_65 (qO S46_65 66 0) 8) : Int) = (qN U48 (qO U48 (qO U48 66 0) 8) : Int) := by rw [o66_]; exact q12_.2.kL (j := 8) y11_ (y11_.ref (y11_.ptr ptrC_39) (y11_.2.1 _ finC_31).2.1) (g.row (y11_.ref (y11_.ptr ptrC_39) (y11_.2.1 _ finC_31).2.1)).1.2.2.2.2.2.2 (by decide) (by decide)
      have t72_ : (qN S46_65 (qO S46_65 (qO S46_65 66 0) 7) : Int) = (qN U48 (qO U48 (qO U48 66 0) 7) : Int) := by rw [o66_]; exact q12_.2.kL (j := 7) y11_ (y11_.ref (y11_.ptr ptrC_39) (y11_.2.1 _ finC_31).2.1) (g.row (y11_.ref (y11_.ptr ptrC_39) (y11_.2.1 _ finC_31).2.1)).1.2.2.2.2.2.1 (by decide) (by decide)
      have t73_ : (qN S46_65 (qO S46_65 (qO S46_65 66 0) 0) : Int) = (qN U48 (qO U48 (qO U48 66 0) 0) : Int) := by rw [o66_]; exact q12_.2.kL (j := 0) y11_ (y11_.ref (y11_.ptr ptrC_39) (y11_.2.1 _ finC_31).2.1) (g.row (y11_.ref (y11_.ptr ptrC_39) (y11_.2.1 _ finC_31).2.1)).1.1 (by decide) (by decide)
      have t74_ : (qN S46_65 (qO S46_65 (qO S46_65 66 0) 6) : Int) = (qN U48 (qO U48 (qO U48 66 0) 6) : Int) := by rw [o66_]; exact q12_.2.kL (j := 6) y11_ (y11_.ref (y11_.ptr ptrC_39) (y11_.2.1 _ finC_31).2.1) (g.row (y11_.ref (y11_.ptr ptrC_39) (y11_.2.1 _ finC_31).2.1)).1.2.2.2.2.1 (by decide) (by decide)
      have t75_ : (qN S46_65 (qO S46_65 (qO S46_65 66 0) 3) : Int) = (qN U48 (qO U48 (qO U48 66 0) 3) : Int) := by rw [o66_]; exact q12_.2.kL (j := 3) y11_ (y11_.ref (y11_.ptr ptrC_39) (y11_.2.1 _ finC_31).2.1) (g.row (y11_.ref (y11_.ptr ptrC_39) (y11_.2.1 _ finC_31).2.1)).1.2.2.1 (by decide) (by decide)
      have t76_ : (qN S46_65 (qO S46_65 (qO S46_65 66 0) 5) : Int) = (qN U48 (qO U48 (qO U48 66 0) 5) : Int) := by rw [o66_]; exact q12_.2.kL (j := 5) y11_ (y11_.ref (y11_.ptr ptrC_39) (y11_.2.1 _ finC_31).2.1) (g.row (y11_.ref (y11_.ptr ptrC_39) (y11_.2.1 _ finC_31).2.1)).1.2.2.2.1 (by decide) (by decide)
      have t77_ : (qN S46_65 (qO S46_65 66 2) : Int) = (qN U48 (qO U48 66 2) : Int) := q12_.2.kL (j := 2) y11_ (y11_.2.1 _ finC_31).2.1 (y11_.ptr ptrC_35) (by decide) (by decide)
      have g : ShC B S46_65 := ShC.ca y11_ g q12_.2 y14_ y13_ rfl rfl
      intro a48_78 ea48_78 
      have ga48_78 := congrArg Int32.toInt ea48_78
      refine ih48 g ?_ ?_ ?_ ?_ ?_
      · have s79_ := (g.row (y13_.ref (y13_.ptr ptrC_39) (y13_.2.1 _ finC_31).2.1)).2
        have s80_ := y13_.len9 (y13_.ref (y13_.ptr ptrC_35) (y13_.2.1 _ finC_31).2.1) (by decide)
        have s81_ := g.smk
        unfold SmK at s81_
        have n1_ := rgI a48_78
        have n2_ := rgI v48_3
        have n3_ := rgI v48_1
        have n4_ := rgI v48_2
        have n5_ := rgI a44_64
        have n6_ := rgI (fX8_targetAt U48 (qO U48 66 0) v48_1 v48_3)
        have n8_ := lo_1k
        have n8_ := t_addD (a := v48_3) (b := Int32.ofInt 1)
        have n9_ := rgI (v48_3 + Int32.ofInt 1)
        omega
      · have s82_ := (g.row (y13_.ref (y13_.ptr ptrC_39) (y13_.2.1 _ finC_31).2.1)).2
        have s83_ := y13_.len9 (y13_.ref (y13_.ptr ptrC_35) (y13_.2.1 _ finC_31).2.1) (by decide)
        have s84_ := g.smk
        unfold SmK at s84_
        have n1_ := rgI v48_1
        have n2_ := rgI v48_3
        have n3_ := rgI v48_2
        have n4_ := rgI a44_64
        have n5_ := rgI (fX8_targetAt U48 (qO U48 66 0) v48_1 v48_3)
        have n6_ := rgI a48_78
        have n8_ := lo_1k
        have n8_ := t_addD (a := v48_3) (b := Int32.ofInt 1)
        have n9_ := rgI (v48_3 + Int32.ofInt 1)
        omega
      · have s85_ := (g.row (y13_.ref (y13_.ptr ptrC_39) (y13_.2.1 _ finC_31).2.1)).2
        have s86_ := y13_.len9 (y13_.ref (y13_.ptr ptrC_35) (y13_.2.1 _ finC_31).2.1) (by decide)
        have s87_ := g.smk
        unfold SmK at s87_
        have n1_ := rgI v48_1
        have n2_ := rgI v48_3
        have n3_ := rgI v48_2
        have n4_ := rgI a44_64
        have n5_ := rgI (fX8_targetAt U48 (qO U48 66 0) v48_1 v48_3)
        have n6_ := rgI a48_78
        have n8_ := lo_1k
        have n8_ := t_addD (a := v48_3) (b := Int32.ofInt 1)
        have n9_ := rgI (v48_3 + Int32.ofInt 1)
        omega
      · have s88_ := (g.row (y13_.ref (y13_.ptr ptrC_39) (y13_.2.1 _ finC_31).2.1)).2
        have s89_ := y13_.len9 (y13_.ref (y13_.ptr ptrC_35) (y13_.2.1 _ finC_31).2.1) (by decide)
        have s90_ := g.smk
        unfold SmK at s90_
        have n1_ := rgI v48_1
        have n2_ := rgI v48_3
        have n3_ := rgI v48_2
        have n4_ := rgI a44_64
        have n5_ := rgI (fX8_targetAt U48 (qO U48 66 0) v48_1 v48_3)
        have n6_ := rgI a48_78
        have n8_ := lo_1k
        have n8_ := t_addD (a := v48_3) (b := Int32.ofInt 1)
        have n9_ := rgI (v48_3 + Int32.ofInt 1)
        omega
      · have s91_ := (g.row (y13_.ref (y13_.ptr ptrC_39) (y13_.2.1 _ finC_31).2.1)).2
        have s92_ := y13_.len9 (y13_.ref (y13_.ptr ptrC_35) (y13_.2.1 _ finC_31).2.1) (by decide)
        have s93_ := g.smk
        unfold SmK at s93_
        have n1_ := rgI a48_78
        have n2_ := rgI v48_3
        have n3_ := rgI v48_1
        have n4_ := rgI v48_2
        have n5_ := rgI a44_64
        have n6_ := rgI (fX8_targetAt U48 (qO U48 66 0) v48_1 v48_3)
        have n8_ := lo_1k
        have n8_ := t_addD (a := v48_3) (b := Int32.ofInt 1)
        have n9_ := rgI (v48_3 + Int32.ofInt 1)
        omega
set_option maxRecDepth 100000 in
theorem sg_X9_findMarked_L26 {B : Nat × Nat} : ∀ (n : Nat) {U26 : MS} {v26_1 : Int32}, ShC B U26 → 0 ≤ v26_1.toInt → 2147483648 - v26_1.toInt < n → w_X9_findMarked_L26 (fun u => ShC B u ∧ (True)) n U26 v26_1 := by
  intro n
  induction n with
  | zero => intro U26 v26_1 g j0_ hm_; exfalso; have := rgI v26_1; omega
  | succ n ih26 =>
    intro U26 v26_1 g j0_ hm_
    unfold w_X9_findMarked_L26
    intro y15_
    refine ⟨fun c94_ => ?_, fun c94_ => ?_⟩
    · refine ⟨(2147483648 - (0 : Int32).toInt).toNat + 1, ?_⟩
      refine sg_X9_findMarked_L80  _ g ?_ ?_
      · have s95_ := (g.row (y15_.ref (y15_.ptr ptrC_39) (y15_.2.1 _ finC_31).2.1)).2
        have s96_ := y15_.len9 (y15_.ref (y15_.ptr ptrC_35) (y15_.2.1 _ finC_31).2.1) (by decide)
        have s97_ := g.smk
        unfold SmK at s97_
        have n1_ := li_0k
        have n2_ := rgI v26_1
        have n3_ := rgI (qI U26 (qO U26 66 0) 2)
        omega
      · have s98_ := (g.row (y15_.ref (y15_.ptr ptrC_39) (y15_.2.1 _ finC_31).2.1)).2
        have s99_ := y15_.len9 (y15_.ref (y15_.ptr ptrC_35) (y15_.2.1 _ finC_31).2.1) (by decide)
        have s100_ := g.smk
        unfold SmK at s100_
        have n1_ := li_0k
        have n2_ := rgI v26_1
        have n3_ := rgI (qI U26 (qO U26 66 0) 2)
        omega
    · refine ⟨?_, ?_⟩
      · exact (dd_X8_targetCount y15_ g (y15_.ref (y15_.ptr ptrC_39) (y15_.2.1 _ finC_31).2.1))
      intro a37_101 ea37_101 
      have ga37_101 := congrArg Int32.toInt ea37_101
      refine ⟨(2147483648 - (0 : Int32).toInt).toNat + 1, ?_⟩
      refine sg_X9_findMarked_L48  (fun _ _ g_ i0_ hm_ => ih26 g_ i0_ hm_) _ g ?_ ?_ ?_ ?_ ?_
      · have s102_ := (g.row (y15_.ref (y15_.ptr ptrC_39) (y15_.2.1 _ finC_31).2.1)).2
        have s103_ := y15_.len9 (y15_.ref (y15_.ptr ptrC_35) (y15_.2.1 _ finC_31).2.1) (by decide)
        have s104_ := g.smk
        unfold SmK at s104_
        have n1_ := li_0k
        have n2_ := rgI v26_1
        have n3_ := rgI (qI U26 (qO U26 66 0) 2)
        have n4_ := rgI a37_101
        have n5_ := rgI (fX8_targetCount U26 (qO U26 66 0) v26_1)
        omega
      · have s105_ := (g.row (y15_.ref (y15_.ptr ptrC_39) (y15_.2.1 _ finC_31).2.1)).2
        have s106_ := y15_.len9 (y15_.ref (y15_.ptr ptrC_35) (y15_.2.1 _ finC_31).2.1) (by decide)
        have s107_ := g.smk
        unfold SmK at s107_
        have n1_ := rgI v26_1
        have n2_ := rgI (qI U26 (qO U26 66 0) 2)
        have n3_ := rgI a37_101
        have n4_ := rgI (fX8_targetCount U26 (qO U26 66 0) v26_1)
        omega
      · have s108_ := (g.row (y15_.ref (y15_.ptr ptrC_39) (y15_.2.1 _ finC_31).2.1)).2
        have s109_ := y15_.len9 (y15_.ref (y15_.ptr ptrC_35) (y15_.2.1 _ finC_31).2.1) (by decide)
        have s110_ := g.smk
        unfold SmK at s110_
        have n1_ := rgI v26_1
        have n2_ := rgI (qI U26 (qO U26 66 0) 2)
        have n3_ := rgI a37_101
        have n4_ := rgI (fX8_targetCount U26 (qO U26 66 0) v26_1)
        omega
      · have s111_ := (g.row (y15_.ref (y15_.ptr ptrC_39) (y15_.2.1 _ finC_31).2.1)).2
        have s112_ := y15_.len9 (y15_.ref (y15_.ptr ptrC_35) (y15_.2.1 _ finC_31).2.1) (by decide)
        have s113_ := g.smk
        unfold SmK at s113_
        have n1_ := rgI v26_1
        have n2_ := rgI (qI U26 (qO U26 66 0) 2)
        have n3_ := rgI a37_101
        have n4_ := rgI (fX8_targetCount U26 (qO U26 66 0) v26_1)
        omega
      · have s114_ := (g.row (y15_.ref (y15_.ptr ptrC_39) (y15_.2.1 _ finC_31).2.1)).2
        have s115_ := y15_.len9 (y15_.ref (y15_.ptr ptrC_35) (y15_.2.1 _ finC_31).2.1) (by decide)
        have s116_ := g.smk
        unfold SmK at s116_
        have n1_ := li_0k
        have n2_ := rgI v26_1
        have n3_ := rgI (qI U26 (qO U26 66 0) 2)
        have n4_ := rgI a37_101
        have n5_ := rgI (fX8_targetCount U26 (qO U26 66 0) v26_1)
        omega
set_option maxRecDepth 100000 in
theorem sg_X9_findMarked_L2 {B : Nat × Nat} : ∀ (n : Nat) {U2 : MS} {v2_1 : Int32}, ShC B U2 → 0 ≤ v2_1.toInt → 2147483648 - v2_1.toInt < n → w_X9_findMarked_L2 (fun u => ShC B u ∧ (True)) n U2 v2_1 := by
  intro n
  induction n with
  | zero => intro U2 v2_1 g j0_ hm_; exfalso; have := rgI v2_1; omega
  | succ n ih2 =>
    intro U2 v2_1 g j0_ hm_
    unfold w_X9_findMarked_L2
    intro y16_
    refine ⟨fun c117_ => ?_, fun c117_ => ?_⟩
    · refine ⟨(2147483648 - (0 : Int32).toInt).toNat + 1, ?_⟩
      refine sg_X9_findMarked_L26  _ g ?_ ?_
      · have s118_ := (g.row (y16_.ref (y16_.ptr ptrC_39) (y16_.2.1 _ finC_31).2.1)).2
        have s119_ := y16_.len9 (y16_.ref (y16_.ptr ptrC_35) (y16_.2.1 _ finC_31).2.1) (by decide)
        have s120_ := g.smk
        unfold SmK at s120_
        have n1_ := li_0k
        have n2_ := rgI v2_1
        omega
      · have s121_ := (g.row (y16_.ref (y16_.ptr ptrC_39) (y16_.2.1 _ finC_31).2.1)).2
        have s122_ := y16_.len9 (y16_.ref (y16_.ptr ptrC_35) (y16_.2.1 _ finC_31).2.1) (by decide)
        have s123_ := g.smk
        unfold SmK at s123_
        have n1_ := li_0k
        have n2_ := rgI v2_1
        omega
    · refine ⟨?_, ?_⟩
      · have s124_ := (g.row (y16_.ref (y16_.ptr ptrC_39) (y16_.2.1 _ finC_31).2.1)).2
        have s125_ := y16_.len9 (y16_.ref (y16_.ptr ptrC_35) (y16_.2.1 _ finC_31).2.1) (by decide)
        have s126_ := g.smk
        unfold SmK at s126_
        have n1_ := rgI v2_1
        omega
      intro S51_127 eS51_127 y17_ y18_
      have f128_ : cfr [305] [] U2 S51_127 := by rw [eS51_127]; exact cfr.aI y17_ (by decide)
      have o129_ : qO S51_127 66 0 = qO U2 66 0 := qO_eq (f128_.kO (y16_.2.1 _ finC_31).2.1 (by decide) (by decide))
      have t130_ : (qI S51_127 (qO S51_127 66 0) 2).toInt = (qI U2 (qO U2 66 0) 2).toInt := by rw [o129_]; exact congrArg Int32.toInt (f128_.kI (j := 2) (y16_.ref (y16_.ptr ptrC_39) (y16_.2.1 _ finC_31).2.1) (by decide) (by decide))
      have t131_ : (qI S51_127 (qO S51_127 66 0) 9).toInt = (qI U2 (qO U2 66 0) 9).toInt := by rw [o129_]; exact congrArg Int32.toInt (f128_.kI (j := 9) (y16_.ref (y16_.ptr ptrC_39) (y16_.2.1 _ finC_31).2.1) (by decide) (by decide))
      have t132_ : (qI S51_127 (qO S51_127 66 0) 4).toInt = (qI U2 (qO U2 66 0) 4).toInt := by rw [o129_]; exact congrArg Int32.toInt (f128_.kI (j := 4) (y16_.ref (y16_.ptr ptrC_39) (y16_.2.1 _ finC_31).2.1) (by decide) (by decide))
      have t133_ : (qN S51_127 (qO S51_127 (qO S51_127 66 0) 1) : Int) = (qN U2 (qO U2 (qO U2 66 0) 1) : Int) := by rw [o129_]; exact f128_.kL (j := 1) y16_ (y16_.ref (y16_.ptr ptrC_39) (y16_.2.1 _ finC_31).2.1) (g.row (y16_.ref (y16_.ptr ptrC_39) (y16_.2.1 _ finC_31).2.1)).1.2.1 (by decide) (by decide)
      have t134_ : (qN S51_127 (qO S51_127 (qO S51_127 66 0) 8) : Int) = (qN U2 (qO U2 (qO U2 66 0) 8) : Int) := by rw [o129_]; exact f128_.kL (j := 8) y16_ (y16_.ref (y16_.ptr ptrC_39) (y16_.2.1 _ finC_31).2.1) (g.row (y16_.ref (y16_.ptr ptrC_39) (y16_.2.1 _ finC_31).2.1)).1.2.2.2.2.2.2 (by decide) (by decide)
      have t135_ : (qN S51_127 (qO S51_127 (qO S51_127 66 0) 7) : Int) = (qN U2 (qO U2 (qO U2 66 0) 7) : Int) := by rw [o129_]; exact f128_.kL (j := 7) y16_ (y16_.ref (y16_.ptr ptrC_39) (y16_.2.1 _ finC_31).2.1) (g.row (y16_.ref (y16_.ptr ptrC_39) (y16_.2.1 _ finC_31).2.1)).1.2.2.2.2.2.1 (by decide) (by decide)
      have t136_ : (qN S51_127 (qO S51_127 (qO S51_127 66 0) 0) : Int) = (qN U2 (qO U2 (qO U2 66 0) 0) : Int) := by rw [o129_]; exact f128_.kL (j := 0) y16_ (y16_.ref (y16_.ptr ptrC_39) (y16_.2.1 _ finC_31).2.1) (g.row (y16_.ref (y16_.ptr ptrC_39) (y16_.2.1 _ finC_31).2.1)).1.1 (by decide) (by decide)
      have t137_ : (qN S51_127 (qO S51_127 (qO S51_127 66 0) 6) : Int) = (qN U2 (qO U2 (qO U2 66 0) 6) : Int) := by rw [o129_]; exact f128_.kL (j := 6) y16_ (y16_.ref (y16_.ptr ptrC_39) (y16_.2.1 _ finC_31).2.1) (g.row (y16_.ref (y16_.ptr ptrC_39) (y16_.2.1 _ finC_31).2.1)).1.2.2.2.2.1 (by decide) (by decide)
      have t138_ : (qN S51_127 (qO S51_127 (qO S51_127 66 0) 3) : Int) = (qN U2 (qO U2 (qO U2 66 0) 3) : Int) := by rw [o129_]; exact f128_.kL (j := 3) y16_ (y16_.ref (y16_.ptr ptrC_39) (y16_.2.1 _ finC_31).2.1) (g.row (y16_.ref (y16_.ptr ptrC_39) (y16_.2.1 _ finC_31).2.1)).1.2.2.1 (by decide) (by decide)
      have t139_ : (qN S51_127 (qO S51_127 (qO S51_127 66 0) 5) : Int) = (qN U2 (qO U2 (qO U2 66 0) 5) : Int) := by rw [o129_]; exact f128_.kL (j := 5) y16_ (y16_.ref (y16_.ptr ptrC_39) (y16_.2.1 _ finC_31).2.1) (g.row (y16_.ref (y16_.ptr ptrC_39) (y16_.2.1 _ finC_31).2.1)).1.2.2.2.1 (by decide) (by decide)
      have t140_ : (qN S51_127 (qO S51_127 66 2) : Int) = (qN U2 (qO U2 66 2) : Int) := f128_.kL (j := 2) y16_ (y16_.2.1 _ finC_31).2.1 (y16_.ptr ptrC_35) (by decide) (by decide)
      have g : ShC B S51_127 := ShC.ws y16_ g f128_ (by rw [eS51_127]; rfl) (by rw [eS51_127]; rfl) (by rw [eS51_127]; rfl) rfl rfl
      intro a52_141 ea52_141 
      have ga52_141 := congrArg Int32.toInt ea52_141
      refine ih2 g ?_ ?_
      · have s142_ := (g.row (y18_.ref (y18_.ptr ptrC_39) (y18_.2.1 _ finC_31).2.1)).2
        have s143_ := y18_.len9 (y18_.ref (y18_.ptr ptrC_35) (y18_.2.1 _ finC_31).2.1) (by decide)
        have s144_ := g.smk
        unfold SmK at s144_
        have n1_ := rgI a52_141
        have n2_ := rgI v2_1
        have n4_ := lo_1k
        have n4_ := t_addD (a := v2_1) (b := Int32.ofInt 1)
        have n5_ := rgI (v2_1 + Int32.ofInt 1)
        omega
      · have s145_ := (g.row (y18_.ref (y18_.ptr ptrC_39) (y18_.2.1 _ finC_31).2.1)).2
        have s146_ := y18_.len9 (y18_.ref (y18_.ptr ptrC_35) (y18_.2.1 _ finC_31).2.1) (by decide)
        have s147_ := g.smk
        unfold SmK at s147_
        have n1_ := rgI a52_141
        have n2_ := rgI v2_1
        have n4_ := lo_1k
        have n4_ := t_addD (a := v2_1) (b := Int32.ofInt 1)
        have n5_ := rgI (v2_1 + Int32.ofInt 1)
        omega
set_option maxRecDepth 100000 in
theorem sgX9_findMarked {B : Nat × Nat} {S : MS} (hw : wfC S) (g : ShC B S) : wX9_findMarked S (fun u => ShC B u ∧ (True)) := by
  unfold wX9_findMarked
  refine ⟨(2147483648 - (0 : Int32).toInt).toNat + 1, ?_⟩
  refine sg_X9_findMarked_L2  _ g ?_ ?_
  · have s148_ := (g.row (hw.ref (hw.ptr ptrC_39) (hw.2.1 _ finC_31).2.1)).2
    have s149_ := hw.len9 (hw.ref (hw.ptr ptrC_35) (hw.2.1 _ finC_31).2.1) (by decide)
    have s150_ := g.smk
    unfold SmK at s150_
    have n1_ := li_0k
    omega
  · have s151_ := (g.row (hw.ref (hw.ptr ptrC_39) (hw.2.1 _ finC_31).2.1)).2
    have s152_ := hw.len9 (hw.ref (hw.ptr ptrC_35) (hw.2.1 _ finC_31).2.1) (by decide)
    have s153_ := g.smk
    unfold SmK at s153_
    have n1_ := li_0k
    omega
set_option maxRecDepth 100000 in
theorem sg_X9_liveBehind_L38 {B : Nat × Nat} : ∀ (n : Nat) {U38 : MS} {v38_1 : Int32} {v38_2 : Int32} {v38_3 : Int32} {v38_4 : Int32}, ShC B U38 → 0 ≤ v38_4.toInt → 2147483648 - v38_4.toInt < n → w_X9_liveBehind_L38 (fun _ u => ShC B u ∧ (True)) n U38 v38_1 v38_2 v38_3 v38_4 := by
  intro n
  induction n with
  | zero => intro U38 v38_1 v38_2 v38_3 v38_4 g j0_ hm_; exfalso; have := rgI v38_1; have := rgI v38_2; have := rgI v38_3; have := rgI v38_4; omega
  | succ n ih38 =>
    intro U38 v38_1 v38_2 v38_3 v38_4 g j0_ hm_
    unfold w_X9_liveBehind_L38
    intro y1_
    refine ⟨fun c0_ => ?_, fun c0_ => ?_⟩
    · exact ⟨g, trivial⟩
    · refine ⟨?_, ?_⟩
      · exact (dd_X8_targetAt y1_ g (y1_.ref (y1_.ptr ptrC_39) (y1_.2.1 _ finC_31).2.1))
      intro a20_1 ea20_1 
      have ga20_1 := congrArg Int32.toInt ea20_1
      refine ⟨?_, ?_⟩
      · exact (dd_X9_liveAt y1_ g)
      intro a24_2 ea24_2 
      have ga24_2 := congrArg Int32.toInt ea24_2
      intro a26_3 ea26_3 
      have ga26_3 := congrArg Int32.toInt ea26_3
      intro a27_4 ea27_4 
      have ga27_4 := congrArg Int32.toInt ea27_4
      refine ih38 g ?_ ?_
      · have s5_ := (g.row (y1_.ref (y1_.ptr ptrC_39) (y1_.2.1 _ finC_31).2.1)).2
        have s6_ := g.smk
        unfold SmK at s6_
        have n1_ := rgI a27_4
        have n2_ := rgI v38_4
        have n3_ := rgI v38_3
        have n4_ := rgI a20_1
        have n5_ := rgI (fX8_targetAt U38 (qO U38 66 0) v38_1 v38_4)
        have n6_ := rgI a24_2
        have n7_ := rgI (fX9_liveAt U38 a20_1)
        have n8_ := rgI a26_3
        have n9_ := rgI (v38_2 ||| a24_2)
        have n11_ := lo_1k
        have n11_ := t_addD (a := v38_4) (b := Int32.ofInt 1)
        have n12_ := rgI (v38_4 + Int32.ofInt 1)
        omega
      · have s7_ := (g.row (y1_.ref (y1_.ptr ptrC_39) (y1_.2.1 _ finC_31).2.1)).2
        have s8_ := g.smk
        unfold SmK at s8_
        have n1_ := rgI a27_4
        have n2_ := rgI v38_4
        have n3_ := rgI v38_3
        have n4_ := rgI a20_1
        have n5_ := rgI (fX8_targetAt U38 (qO U38 66 0) v38_1 v38_4)
        have n6_ := rgI a24_2
        have n7_ := rgI (fX9_liveAt U38 a20_1)
        have n8_ := rgI a26_3
        have n9_ := rgI (v38_2 ||| a24_2)
        have n11_ := lo_1k
        have n11_ := t_addD (a := v38_4) (b := Int32.ofInt 1)
        have n12_ := rgI (v38_4 + Int32.ofInt 1)
        omega
set_option maxRecDepth 100000 in
theorem sgX9_liveBehind {B : Nat × Nat} {S : MS} {x1 : Int32} (hw : wfC S) (g : ShC B S) : wX9_liveBehind S x1 (fun _ u => ShC B u ∧ (True)) := by
  unfold wX9_liveBehind
  refine ⟨?_, ?_⟩
  · exact (dd_X8_opAt hw g (hw.ref (hw.ptr ptrC_39) (hw.2.1 _ finC_31).2.1))
  intro a5_9 ea5_9 
  have ga5_9 := congrArg Int32.toInt ea5_9
  refine ⟨?_, ?_⟩
  · exact dd_X6_goesOn
  intro a9_10 ea9_10 
  have ga9_10 := congrArg Int32.toInt ea9_10
  refine ⟨fun c11_ => ?_, fun c11_ => ?_⟩
  · unfold w_X9_liveBehind_J25
    intro y2_
    refine ⟨?_, ?_⟩
    · exact (dd_X8_targetCount y2_ g (y2_.ref (y2_.ptr ptrC_39) (y2_.2.1 _ finC_31).2.1))
    intro a14_12 ea14_12 
    have ga14_12 := congrArg Int32.toInt ea14_12
    refine ⟨(2147483648 - (0 : Int32).toInt).toNat + 1, ?_⟩
    refine sg_X9_liveBehind_L38  _ g ?_ ?_
    · have s13_ := (g.row (y2_.ref (y2_.ptr ptrC_39) (y2_.2.1 _ finC_31).2.1)).2
      have s14_ := g.smk
      unfold SmK at s14_
      have n1_ := li_0k
      have n2_ := rgI a5_9
      have n3_ := rgI (fX8_opAt S (qO S 66 0) x1)
      have n4_ := rgI a9_10
      have n5_ := rgI (fX6_goesOn S a5_9)
      have n6_ := rgI a14_12
      have n7_ := rgI (fX8_targetCount S (qO S 66 0) x1)
      omega
    · have s15_ := (g.row (y2_.ref (y2_.ptr ptrC_39) (y2_.2.1 _ finC_31).2.1)).2
      have s16_ := g.smk
      unfold SmK at s16_
      have n1_ := li_0k
      have n2_ := rgI a5_9
      have n3_ := rgI (fX8_opAt S (qO S 66 0) x1)
      have n4_ := rgI a9_10
      have n5_ := rgI (fX6_goesOn S a5_9)
      have n6_ := rgI a14_12
      have n7_ := rgI (fX8_targetCount S (qO S 66 0) x1)
      omega
  · refine ⟨?_, ?_⟩
    · exact (dd_X9_liveAt hw g)
    intro a33_17 ea33_17 
    have ga33_17 := congrArg Int32.toInt ea33_17
    unfold w_X9_liveBehind_J25
    intro y3_
    refine ⟨?_, ?_⟩
    · exact (dd_X8_targetCount y3_ g (y3_.ref (y3_.ptr ptrC_39) (y3_.2.1 _ finC_31).2.1))
    intro a14_18 ea14_18 
    have ga14_18 := congrArg Int32.toInt ea14_18
    refine ⟨(2147483648 - (0 : Int32).toInt).toNat + 1, ?_⟩
    refine sg_X9_liveBehind_L38  _ g ?_ ?_
    · have s19_ := (g.row (y3_.ref (y3_.ptr ptrC_39) (y3_.2.1 _ finC_31).2.1)).2
      have s20_ := g.smk
      unfold SmK at s20_
      have n1_ := li_0k
      have n2_ := rgI a5_9
      have n3_ := rgI (fX8_opAt S (qO S 66 0) x1)
      have n4_ := rgI a9_10
      have n5_ := rgI (fX6_goesOn S a5_9)
      have n6_ := rgI a33_17
      have n7_ := rgI (fX9_liveAt S (x1 + (1 : Int32)))
      have n8_ := rgI a14_18
      have n9_ := rgI (fX8_targetCount S (qO S 66 0) x1)
      omega
    · have s21_ := (g.row (y3_.ref (y3_.ptr ptrC_39) (y3_.2.1 _ finC_31).2.1)).2
      have s22_ := g.smk
      unfold SmK at s22_
      have n1_ := li_0k
      have n2_ := rgI a5_9
      have n3_ := rgI (fX8_opAt S (qO S 66 0) x1)
      have n4_ := rgI a9_10
      have n5_ := rgI (fX6_goesOn S a5_9)
      have n6_ := rgI a33_17
      have n7_ := rgI (fX9_liveAt S (x1 + (1 : Int32)))
      have n8_ := rgI a14_18
      have n9_ := rgI (fX8_targetCount S (qO S 66 0) x1)
      omega
set_option maxRecDepth 100000 in
theorem sg_X9_findReached_L50 {B : Nat × Nat} {k36 : MS → Int32 → Int32 → Prop} {N36 : Nat} (hk36 : ∀ (U36 : MS) (v36_1 : Int32) (v36_2 : Int32), ShC B U36 → 0 ≤ v36_2.toInt → 2147483648 - v36_2.toInt < N36 → k36 U36 v36_1 v36_2) : ∀ (n : Nat) {U50 : MS} {v50_1 : Int32} {v50_2 : Int32} {v50_3 : Int32}, ShC B U50 → 0 ≤ v50_3.toInt → v50_2.toInt < 2147483647 → 2147483648 - v50_2.toInt ≤ N36 → 0 ≤ v50_2.toInt → 2147483648 - v50_3.toInt < n → w_X9_findReached_L50 (fun u => ShC B u ∧ (True)) k36 n U50 v50_1 v50_2 v50_3 := by
  intro n
  induction n with
  | zero => intro U50 v50_1 v50_2 v50_3 g j0_ j1_ j2_ j3_ hm_; exfalso; have := rgI v50_1; have := rgI v50_2; have := rgI v50_3; omega
  | succ n ih50 =>
    intro U50 v50_1 v50_2 v50_3 g j0_ j1_ j2_ j3_ hm_
    unfold w_X9_findReached_L50
    intro y1_
    refine ⟨fun c0_ => ?_, fun c0_ => ?_⟩
    · intro a8_1 ea8_1 
      have ga8_1 := congrArg Int32.toInt ea8_1
      refine hk36 _ _ _ g ?_ ?_
      · have s2_ := (g.row (y1_.ref (y1_.ptr ptrC_39) (y1_.2.1 _ finC_31).2.1)).2
        have s3_ := y1_.len9 (y1_.ref (y1_.ptr ptrC_36) (y1_.2.1 _ finC_31).2.1) (by decide)
        have s4_ := g.smk
        unfold SmK at s4_
        have n1_ := rgI a8_1
        have n2_ := rgI v50_3
        have n3_ := rgI v50_2
        have n4_ := rgI (qI U50 (qO U50 66 0) 2)
        have n6_ := lo_1k
        have n6_ := t_addD (a := v50_2) (b := Int32.ofInt 1)
        have n7_ := rgI (v50_2 + Int32.ofInt 1)
        omega
      · have s5_ := (g.row (y1_.ref (y1_.ptr ptrC_39) (y1_.2.1 _ finC_31).2.1)).2
        have s6_ := y1_.len9 (y1_.ref (y1_.ptr ptrC_36) (y1_.2.1 _ finC_31).2.1) (by decide)
        have s7_ := g.smk
        unfold SmK at s7_
        have n1_ := rgI a8_1
        have n2_ := rgI v50_3
        have n3_ := rgI v50_2
        have n4_ := rgI (qI U50 (qO U50 66 0) 2)
        have n6_ := lo_1k
        have n6_ := t_addD (a := v50_2) (b := Int32.ofInt 1)
        have n7_ := rgI (v50_2 + Int32.ofInt 1)
        omega
    · refine ⟨?_, ?_⟩
      · have s8_ := (g.row (y1_.ref (y1_.ptr ptrC_39) (y1_.2.1 _ finC_31).2.1)).2
        have s9_ := y1_.len9 (y1_.ref (y1_.ptr ptrC_36) (y1_.2.1 _ finC_31).2.1) (by decide)
        have s10_ := g.smk
        unfold SmK at s10_
        have n1_ := rgI v50_3
        have n2_ := rgI v50_2
        have n3_ := rgI (qI U50 (qO U50 66 0) 2)
        omega
      refine ⟨fun c11_ => ?_, fun c11_ => ?_⟩
      · unfold w_X9_findReached_J78
        intro y2_
        intro a13_12 ea13_12 
        have ga13_12 := congrArg Int32.toInt ea13_12
        refine ih50 g ?_ ?_ ?_ ?_ ?_
        · have s13_ := (g.row (y2_.ref (y2_.ptr ptrC_39) (y2_.2.1 _ finC_31).2.1)).2
          have s14_ := y2_.len9 (y2_.ref (y2_.ptr ptrC_36) (y2_.2.1 _ finC_31).2.1) (by decide)
          have s15_ := g.smk
          unfold SmK at s15_
          have n1_ := rgI a13_12
          have n2_ := rgI v50_3
          have n3_ := rgI v50_2
          have n4_ := rgI (qI U50 (qO U50 66 0) 2)
          have n5_ := rgI (qI U50 (qO U50 66 3) v50_3.toInt.toNat)
          have n7_ := lo_1k
          have n7_ := t_addD (a := v50_3) (b := Int32.ofInt 1)
          have n8_ := rgI (v50_3 + Int32.ofInt 1)
          omega
        · have s16_ := (g.row (y2_.ref (y2_.ptr ptrC_39) (y2_.2.1 _ finC_31).2.1)).2
          have s17_ := y2_.len9 (y2_.ref (y2_.ptr ptrC_36) (y2_.2.1 _ finC_31).2.1) (by decide)
          have s18_ := g.smk
          unfold SmK at s18_
          have n1_ := rgI v50_2
          have n2_ := rgI v50_3
          have n3_ := rgI (qI U50 (qO U50 66 0) 2)
          have n4_ := rgI (qI U50 (qO U50 66 3) v50_3.toInt.toNat)
          have n5_ := rgI a13_12
          have n7_ := lo_1k
          have n7_ := t_addD (a := v50_3) (b := Int32.ofInt 1)
          have n8_ := rgI (v50_3 + Int32.ofInt 1)
          omega
        · have s19_ := (g.row (y2_.ref (y2_.ptr ptrC_39) (y2_.2.1 _ finC_31).2.1)).2
          have s20_ := y2_.len9 (y2_.ref (y2_.ptr ptrC_36) (y2_.2.1 _ finC_31).2.1) (by decide)
          have s21_ := g.smk
          unfold SmK at s21_
          have n1_ := rgI v50_2
          have n2_ := rgI v50_3
          have n3_ := rgI (qI U50 (qO U50 66 0) 2)
          have n4_ := rgI (qI U50 (qO U50 66 3) v50_3.toInt.toNat)
          have n5_ := rgI a13_12
          have n7_ := lo_1k
          have n7_ := t_addD (a := v50_3) (b := Int32.ofInt 1)
          have n8_ := rgI (v50_3 + Int32.ofInt 1)
          omega
        · have s22_ := (g.row (y2_.ref (y2_.ptr ptrC_39) (y2_.2.1 _ finC_31).2.1)).2
          have s23_ := y2_.len9 (y2_.ref (y2_.ptr ptrC_36) (y2_.2.1 _ finC_31).2.1) (by decide)
          have s24_ := g.smk
          unfold SmK at s24_
          have n1_ := rgI v50_2
          have n2_ := rgI v50_3
          have n3_ := rgI (qI U50 (qO U50 66 0) 2)
          have n4_ := rgI (qI U50 (qO U50 66 3) v50_3.toInt.toNat)
          have n5_ := rgI a13_12
          have n7_ := lo_1k
          have n7_ := t_addD (a := v50_3) (b := Int32.ofInt 1)
          have n8_ := rgI (v50_3 + Int32.ofInt 1)
          omega
        · have s25_ := (g.row (y2_.ref (y2_.ptr ptrC_39) (y2_.2.1 _ finC_31).2.1)).2
          have s26_ := y2_.len9 (y2_.ref (y2_.ptr ptrC_36) (y2_.2.1 _ finC_31).2.1) (by decide)
          have s27_ := g.smk
          unfold SmK at s27_
          have n1_ := rgI a13_12
          have n2_ := rgI v50_3
          have n3_ := rgI v50_2
          have n4_ := rgI (qI U50 (qO U50 66 0) 2)
          have n5_ := rgI (qI U50 (qO U50 66 3) v50_3.toInt.toNat)
          have n7_ := lo_1k
          have n7_ := t_addD (a := v50_3) (b := Int32.ofInt 1)
          have n8_ := rgI (v50_3 + Int32.ofInt 1)
          omega
      · refine ⟨_, frX9_reachFrom y1_ (sgX9_reachFrom y1_ g), ?_⟩
        intro r16_28 S17_28 q3_ y4_ y5_
        have o29_ : qO S17_28 66 0 = qO U50 66 0 := qO_eq (q3_.2.kO (y1_.2.1 _ finC_31).2.1 (by decide) (by decide))
        have t30_ : (qI S17_28 (qO S17_28 66 0) 2).toInt = (qI U50 (qO U50 66 0) 2).toInt := by rw [o29_]; exact congrArg Int32.toInt (q3_.2.kI (j := 2) (y1_.ref (y1_.ptr ptrC_39) (y1_.2.1 _ finC_31).2.1) (by decide) (by decide))
        have t31_ : (qI S17_28 (qO S17_28 66 0) 9).toInt = (qI U50 (qO U50 66 0) 9).toInt := by rw [o29_]; exact congrArg Int32.toInt (q3_.2.kI (j := 9) (y1_.ref (y1_.ptr ptrC_39) (y1_.2.1 _ finC_31).2.1) (by decide) (by decide))
        have t32_ : (qI S17_28 (qO S17_28 66 0) 4).toInt = (qI U50 (qO U50 66 0) 4).toInt := by rw [o29_]; exact congrArg Int32.toInt (q3_.2.kI (j := 4) (y1_.ref (y1_.ptr ptrC_39) (y1_.2.1 _ finC_31).2.1) (by decide) (by decide))
        have t33_ : (qN S17_28 (qO S17_28 (qO S17_28 66 0) 1) : Int) = (qN U50 (qO U50 (qO U50 66 0) 1) : Int) := by rw [o29_]; exact q3_.2.kL (j := 1) y1_ (y1_.ref (y1_.ptr ptrC_39) (y1_.2.1 _ finC_31).2.1) (g.row (y1_.ref (y1_.ptr ptrC_39) (y1_.2.1 _ finC_31).2.1)).1.2.1 (by decide) (by decide)
        have t34_ : (qN S17_28 (qO S17_28 (qO S17_28 66 0) 8) : Int) = (qN U50 (qO U50 (qO U50 66 0) 8) : Int) := by rw [o29_]; exact q3_.2.kL (j := 8) y1_ (y1_.ref (y1_.ptr ptrC_39) (y1_.2.1 _ finC_31).2.1) (g.row (y1_.ref (y1_.ptr ptrC_39) (y1_.2.1 _ finC_31).2.1)).1.2.2.2.2.2.2 (by decide) (by decide)
        have t35_ : (qN S17_28 (qO S17_28 (qO S17_28 66 0) 7) : Int) = (qN U50 (qO U50 (qO U50 66 0) 7) : Int) := by rw [o29_]; exact q3_.2.kL (j := 7) y1_ (y1_.ref (y1_.ptr ptrC_39) (y1_.2.1 _ finC_31).2.1) (g.row (y1_.ref (y1_.ptr ptrC_39) (y1_.2.1 _ finC_31).2.1)).1.2.2.2.2.2.1 (by decide) (by decide)
        have t36_ : (qN S17_28 (qO S17_28 (qO S17_28 66 0) 0) : Int) = (qN U50 (qO U50 (qO U50 66 0) 0) : Int) := by rw [o29_]; exact q3_.2.kL (j := 0) y1_ (y1_.ref (y1_.ptr ptrC_39) (y1_.2.1 _ finC_31).2.1) (g.row (y1_.ref (y1_.ptr ptrC_39) (y1_.2.1 _ finC_31).2.1)).1.1 (by decide) (by decide)
        have t37_ : (qN S17_28 (qO S17_28 (qO S17_28 66 0) 6) : Int) = (qN U50 (qO U50 (qO U50 66 0) 6) : Int) := by rw [o29_]; exact q3_.2.kL (j := 6) y1_ (y1_.ref (y1_.ptr ptrC_39) (y1_.2.1 _ finC_31).2.1) (g.row (y1_.ref (y1_.ptr ptrC_39) (y1_.2.1 _ finC_31).2.1)).1.2.2.2.2.1 (by decide) (by decide)
        have t38_ : (qN S17_28 (qO S17_28 (qO S17_28 66 0) 3) : Int) = (qN U50 (qO U50 (qO U50 66 0) 3) : Int) := by rw [o29_]; exact q3_.2.kL (j := 3) y1_ (y1_.ref (y1_.ptr ptrC_39) (y1_.2.1 _ finC_31).2.1) (g.row (y1_.ref (y1_.ptr ptrC_39) (y1_.2.1 _ finC_31).2.1)).1.2.2.1 (by decide) (by decide)
        have t39_ : (qN S17_28 (qO S17_28 (qO S17_28 66 0) 5) : Int) = (qN U50 (qO U50 (qO U50 66 0) 5) : Int) := by rw [o29_]; exact q3_.2.kL (j := 5) y1_ (y1_.ref (y1_.ptr ptrC_39) (y1_.2.1 _ finC_31).2.1) (g.row (y1_.ref (y1_.ptr ptrC_39) (y1_.2.1 _ finC_31).2.1)).1.2.2.2.1 (by decide) (by decide)
        have t40_ : (qN S17_28 (qO S17_28 66 3) : Int) = (qN U50 (qO U50 66 3) : Int) := q3_.2.kL (j := 3) y1_ (y1_.2.1 _ finC_31).2.1 (y1_.ptr ptrC_36) (by decide) (by decide)
        have g : ShC B S17_28 := q3_.1.1
        intro a20_41 ea20_41 
        have ga20_41 := congrArg Int32.toInt ea20_41
        unfold w_X9_findReached_J78
        intro y6_
        intro a13_42 ea13_42 
        have ga13_42 := congrArg Int32.toInt ea13_42
        refine ih50 g ?_ ?_ ?_ ?_ ?_
        · have s43_ := (g.row (y6_.ref (y6_.ptr ptrC_39) (y6_.2.1 _ finC_31).2.1)).2
          have s44_ := y6_.len9 (y6_.ref (y6_.ptr ptrC_36) (y6_.2.1 _ finC_31).2.1) (by decide)
          have s45_ := g.smk
          unfold SmK at s45_
          have n1_ := rgI a13_42
          have n2_ := rgI v50_3
          have n3_ := rgI v50_2
          have n4_ := rgI (qI U50 (qO U50 66 0) 2)
          have n5_ := rgI (qI U50 (qO U50 66 3) v50_3.toInt.toNat)
          have n6_ := rgI a20_41
          have n7_ := rgI (v50_1 ||| r16_28)
          have n9_ := lo_1k
          have n9_ := t_addD (a := v50_3) (b := Int32.ofInt 1)
          have n10_ := rgI (v50_3 + Int32.ofInt 1)
          omega
        · have s46_ := (g.row (y6_.ref (y6_.ptr ptrC_39) (y6_.2.1 _ finC_31).2.1)).2
          have s47_ := y6_.len9 (y6_.ref (y6_.ptr ptrC_36) (y6_.2.1 _ finC_31).2.1) (by decide)
          have s48_ := g.smk
          unfold SmK at s48_
          have n1_ := rgI v50_2
          have n2_ := rgI v50_3
          have n3_ := rgI (qI U50 (qO U50 66 0) 2)
          have n4_ := rgI (qI U50 (qO U50 66 3) v50_3.toInt.toNat)
          have n5_ := rgI a20_41
          have n6_ := rgI (v50_1 ||| r16_28)
          have n7_ := rgI a13_42
          have n9_ := lo_1k
          have n9_ := t_addD (a := v50_3) (b := Int32.ofInt 1)
          have n10_ := rgI (v50_3 + Int32.ofInt 1)
          omega
        · have s49_ := (g.row (y6_.ref (y6_.ptr ptrC_39) (y6_.2.1 _ finC_31).2.1)).2
          have s50_ := y6_.len9 (y6_.ref (y6_.ptr ptrC_36) (y6_.2.1 _ finC_31).2.1) (by decide)
          have s51_ := g.smk
          unfold SmK at s51_
          have n1_ := rgI v50_2
          have n2_ := rgI v50_3
          have n3_ := rgI (qI U50 (qO U50 66 0) 2)
          have n4_ := rgI (qI U50 (qO U50 66 3) v50_3.toInt.toNat)
          have n5_ := rgI a20_41
          have n6_ := rgI (v50_1 ||| r16_28)
          have n7_ := rgI a13_42
          have n9_ := lo_1k
          have n9_ := t_addD (a := v50_3) (b := Int32.ofInt 1)
          have n10_ := rgI (v50_3 + Int32.ofInt 1)
          omega
        · have s52_ := (g.row (y6_.ref (y6_.ptr ptrC_39) (y6_.2.1 _ finC_31).2.1)).2
          have s53_ := y6_.len9 (y6_.ref (y6_.ptr ptrC_36) (y6_.2.1 _ finC_31).2.1) (by decide)
          have s54_ := g.smk
          unfold SmK at s54_
          have n1_ := rgI v50_2
          have n2_ := rgI v50_3
          have n3_ := rgI (qI U50 (qO U50 66 0) 2)
          have n4_ := rgI (qI U50 (qO U50 66 3) v50_3.toInt.toNat)
          have n5_ := rgI a20_41
          have n6_ := rgI (v50_1 ||| r16_28)
          have n7_ := rgI a13_42
          have n9_ := lo_1k
          have n9_ := t_addD (a := v50_3) (b := Int32.ofInt 1)
          have n10_ := rgI (v50_3 + Int32.ofInt 1)
          omega
        · have s55_ := (g.row (y6_.ref (y6_.ptr ptrC_39) (y6_.2.1 _ finC_31).2.1)).2
          have s56_ := y6_.len9 (y6_.ref (y6_.ptr ptrC_36) (y6_.2.1 _ finC_31).2.1) (by decide)
          have s57_ := g.smk
          unfold SmK at s57_
          have n1_ := rgI a13_42
          have n2_ := rgI v50_3
          have n3_ := rgI v50_2
          have n4_ := rgI (qI U50 (qO U50 66 0) 2)
          have n5_ := rgI (qI U50 (qO U50 66 3) v50_3.toInt.toNat)
          have n6_ := rgI a20_41
          have n7_ := rgI (v50_1 ||| r16_28)
          have n9_ := lo_1k
          have n9_ := t_addD (a := v50_3) (b := Int32.ofInt 1)
          have n10_ := rgI (v50_3 + Int32.ofInt 1)
          omega
set_option maxRecDepth 100000 in
theorem sg_X9_findReached_L36 {B : Nat × Nat} : ∀ (n : Nat) {U36 : MS} {v36_1 : Int32} {v36_2 : Int32}, ShC B U36 → 0 ≤ v36_2.toInt → 2147483648 - v36_2.toInt < n → w_X9_findReached_L36 (fun u => ShC B u ∧ (True)) n U36 v36_1 v36_2 := by
  intro n
  induction n with
  | zero => intro U36 v36_1 v36_2 g j0_ hm_; exfalso; have := rgI v36_1; have := rgI v36_2; omega
  | succ n ih36 =>
    intro U36 v36_1 v36_2 g j0_ hm_
    unfold w_X9_findReached_L36
    intro y7_
    refine ⟨fun c58_ => ?_, fun c58_ => ?_⟩
    · exact ⟨g, trivial⟩
    · refine ⟨fun c59_ => ?_, fun c59_ => ?_⟩
      · exact ⟨g, trivial⟩
      · refine ⟨(2147483648 - (0 : Int32).toInt).toNat + 1, ?_⟩
        refine sg_X9_findReached_L50  (fun _ _ _ g_ i0_ hm_ => ih36 g_ i0_ hm_) _ g ?_ ?_ ?_ ?_ ?_
        · have s60_ := (g.row (y7_.ref (y7_.ptr ptrC_39) (y7_.2.1 _ finC_31).2.1)).2
          have s61_ := y7_.len9 (y7_.ref (y7_.ptr ptrC_36) (y7_.2.1 _ finC_31).2.1) (by decide)
          have s62_ := g.smk
          unfold SmK at s62_
          have n1_ := li_0k
          have n2_ := rgI v36_2
          have n3_ := rgI v36_1
          omega
        · have s63_ := (g.row (y7_.ref (y7_.ptr ptrC_39) (y7_.2.1 _ finC_31).2.1)).2
          have s64_ := y7_.len9 (y7_.ref (y7_.ptr ptrC_36) (y7_.2.1 _ finC_31).2.1) (by decide)
          have s65_ := g.smk
          unfold SmK at s65_
          have n1_ := rgI v36_2
          have n2_ := rgI v36_1
          omega
        · have s66_ := (g.row (y7_.ref (y7_.ptr ptrC_39) (y7_.2.1 _ finC_31).2.1)).2
          have s67_ := y7_.len9 (y7_.ref (y7_.ptr ptrC_36) (y7_.2.1 _ finC_31).2.1) (by decide)
          have s68_ := g.smk
          unfold SmK at s68_
          have n1_ := rgI v36_2
          have n2_ := rgI v36_1
          omega
        · have s69_ := (g.row (y7_.ref (y7_.ptr ptrC_39) (y7_.2.1 _ finC_31).2.1)).2
          have s70_ := y7_.len9 (y7_.ref (y7_.ptr ptrC_36) (y7_.2.1 _ finC_31).2.1) (by decide)
          have s71_ := g.smk
          unfold SmK at s71_
          have n1_ := rgI v36_2
          have n2_ := rgI v36_1
          omega
        · have s72_ := (g.row (y7_.ref (y7_.ptr ptrC_39) (y7_.2.1 _ finC_31).2.1)).2
          have s73_ := y7_.len9 (y7_.ref (y7_.ptr ptrC_36) (y7_.2.1 _ finC_31).2.1) (by decide)
          have s74_ := g.smk
          unfold SmK at s74_
          have n1_ := li_0k
          have n2_ := rgI v36_2
          have n3_ := rgI v36_1
          omega
set_option maxRecDepth 100000 in
theorem sg_X9_findReached_L2 {B : Nat × Nat} : ∀ (n : Nat) {U2 : MS} {v2_1 : Int32}, ShC B U2 → 0 ≤ v2_1.toInt → 2147483648 - v2_1.toInt < n → w_X9_findReached_L2 (fun u => ShC B u ∧ (True)) n U2 v2_1 := by
  intro n
  induction n with
  | zero => intro U2 v2_1 g j0_ hm_; exfalso; have := rgI v2_1; omega
  | succ n ih2 =>
    intro U2 v2_1 g j0_ hm_
    unfold w_X9_findReached_L2
    intro y8_
    refine ⟨fun c75_ => ?_, fun c75_ => ?_⟩
    · refine ⟨(2147483648 - (0 : Int32).toInt).toNat + 1, ?_⟩
      refine sg_X9_findReached_L36  _ g ?_ ?_
      · have s76_ := (g.row (y8_.ref (y8_.ptr ptrC_39) (y8_.2.1 _ finC_31).2.1)).2
        have s77_ := y8_.len9 (y8_.ref (y8_.ptr ptrC_36) (y8_.2.1 _ finC_31).2.1) (by decide)
        have s78_ := g.smk
        unfold SmK at s78_
        have n1_ := li_0k
        have n2_ := rgI v2_1
        omega
      · have s79_ := (g.row (y8_.ref (y8_.ptr ptrC_39) (y8_.2.1 _ finC_31).2.1)).2
        have s80_ := y8_.len9 (y8_.ref (y8_.ptr ptrC_36) (y8_.2.1 _ finC_31).2.1) (by decide)
        have s81_ := g.smk
        unfold SmK at s81_
        have n1_ := li_0k
        have n2_ := rgI v2_1
        omega
    · refine ⟨fun c82_ => ?_, fun c82_ => ?_⟩
      · unfold w_X9_findReached_J25
        intro y9_ y10_ y11_
        refine ⟨?_, ?_⟩
        · have s83_ := (g.row (y9_.ref (y9_.ptr ptrC_39) (y9_.2.1 _ finC_31).2.1)).2
          have s84_ := y9_.len9 (y9_.ref (y9_.ptr ptrC_36) (y9_.2.1 _ finC_31).2.1) (by decide)
          have s85_ := g.smk
          unfold SmK at s85_
          have n1_ := rgI v2_1
          omega
        intro S23_86 eS23_86 y12_ y13_
        have f87_ : cfr [306] [] U2 S23_86 := by rw [eS23_86]; exact cfr.aI y12_ (by decide)
        have o88_ : qO S23_86 66 0 = qO U2 66 0 := qO_eq (f87_.kO (y9_.2.1 _ finC_31).2.1 (by decide) (by decide))
        have t89_ : (qI S23_86 (qO S23_86 66 0) 2).toInt = (qI U2 (qO U2 66 0) 2).toInt := by rw [o88_]; exact congrArg Int32.toInt (f87_.kI (j := 2) (y9_.ref (y9_.ptr ptrC_39) (y9_.2.1 _ finC_31).2.1) (by decide) (by decide))
        have t90_ : (qI S23_86 (qO S23_86 66 0) 9).toInt = (qI U2 (qO U2 66 0) 9).toInt := by rw [o88_]; exact congrArg Int32.toInt (f87_.kI (j := 9) (y9_.ref (y9_.ptr ptrC_39) (y9_.2.1 _ finC_31).2.1) (by decide) (by decide))
        have t91_ : (qI S23_86 (qO S23_86 66 0) 4).toInt = (qI U2 (qO U2 66 0) 4).toInt := by rw [o88_]; exact congrArg Int32.toInt (f87_.kI (j := 4) (y9_.ref (y9_.ptr ptrC_39) (y9_.2.1 _ finC_31).2.1) (by decide) (by decide))
        have t92_ : (qN S23_86 (qO S23_86 (qO S23_86 66 0) 1) : Int) = (qN U2 (qO U2 (qO U2 66 0) 1) : Int) := by rw [o88_]; exact f87_.kL (j := 1) y9_ (y9_.ref (y9_.ptr ptrC_39) (y9_.2.1 _ finC_31).2.1) (g.row (y9_.ref (y9_.ptr ptrC_39) (y9_.2.1 _ finC_31).2.1)).1.2.1 (by decide) (by decide)
        have t93_ : (qN S23_86 (qO S23_86 (qO S23_86 66 0) 8) : Int) = (qN U2 (qO U2 (qO U2 66 0) 8) : Int) := by rw [o88_]; exact f87_.kL (j := 8) y9_ (y9_.ref (y9_.ptr ptrC_39) (y9_.2.1 _ finC_31).2.1) (g.row (y9_.ref (y9_.ptr ptrC_39) (y9_.2.1 _ finC_31).2.1)).1.2.2.2.2.2.2 (by decide) (by decide)
        have t94_ : (qN S23_86 (qO S23_86 (qO S23_86 66 0) 7) : Int) = (qN U2 (qO U2 (qO U2 66 0) 7) : Int) := by rw [o88_]; exact f87_.kL (j := 7) y9_ (y9_.ref (y9_.ptr ptrC_39) (y9_.2.1 _ finC_31).2.1) (g.row (y9_.ref (y9_.ptr ptrC_39) (y9_.2.1 _ finC_31).2.1)).1.2.2.2.2.2.1 (by decide) (by decide)
        have t95_ : (qN S23_86 (qO S23_86 (qO S23_86 66 0) 0) : Int) = (qN U2 (qO U2 (qO U2 66 0) 0) : Int) := by rw [o88_]; exact f87_.kL (j := 0) y9_ (y9_.ref (y9_.ptr ptrC_39) (y9_.2.1 _ finC_31).2.1) (g.row (y9_.ref (y9_.ptr ptrC_39) (y9_.2.1 _ finC_31).2.1)).1.1 (by decide) (by decide)
        have t96_ : (qN S23_86 (qO S23_86 (qO S23_86 66 0) 6) : Int) = (qN U2 (qO U2 (qO U2 66 0) 6) : Int) := by rw [o88_]; exact f87_.kL (j := 6) y9_ (y9_.ref (y9_.ptr ptrC_39) (y9_.2.1 _ finC_31).2.1) (g.row (y9_.ref (y9_.ptr ptrC_39) (y9_.2.1 _ finC_31).2.1)).1.2.2.2.2.1 (by decide) (by decide)
        have t97_ : (qN S23_86 (qO S23_86 (qO S23_86 66 0) 3) : Int) = (qN U2 (qO U2 (qO U2 66 0) 3) : Int) := by rw [o88_]; exact f87_.kL (j := 3) y9_ (y9_.ref (y9_.ptr ptrC_39) (y9_.2.1 _ finC_31).2.1) (g.row (y9_.ref (y9_.ptr ptrC_39) (y9_.2.1 _ finC_31).2.1)).1.2.2.1 (by decide) (by decide)
        have t98_ : (qN S23_86 (qO S23_86 (qO S23_86 66 0) 5) : Int) = (qN U2 (qO U2 (qO U2 66 0) 5) : Int) := by rw [o88_]; exact f87_.kL (j := 5) y9_ (y9_.ref (y9_.ptr ptrC_39) (y9_.2.1 _ finC_31).2.1) (g.row (y9_.ref (y9_.ptr ptrC_39) (y9_.2.1 _ finC_31).2.1)).1.2.2.2.1 (by decide) (by decide)
        have t99_ : (qN S23_86 (qO S23_86 66 3) : Int) = (qN U2 (qO U2 66 3) : Int) := f87_.kL (j := 3) y9_ (y9_.2.1 _ finC_31).2.1 (y9_.ptr ptrC_36) (by decide) (by decide)
        have g : ShC B S23_86 := ShC.ws y9_ g f87_ (by rw [eS23_86]; rfl) (by rw [eS23_86]; rfl) (by rw [eS23_86]; rfl) rfl rfl
        intro a24_100 ea24_100 
        have ga24_100 := congrArg Int32.toInt ea24_100
        refine ih2 g ?_ ?_
        · have s101_ := (g.row (y13_.ref (y13_.ptr ptrC_39) (y13_.2.1 _ finC_31).2.1)).2
          have s102_ := y13_.len9 (y13_.ref (y13_.ptr ptrC_36) (y13_.2.1 _ finC_31).2.1) (by decide)
          have s103_ := g.smk
          unfold SmK at s103_
          have n1_ := rgI a24_100
          have n2_ := rgI v2_1
          have n4_ := lo_1k
          have n4_ := t_addD (a := v2_1) (b := Int32.ofInt 1)
          have n5_ := rgI (v2_1 + Int32.ofInt 1)
          omega
        · have s104_ := (g.row (y13_.ref (y13_.ptr ptrC_39) (y13_.2.1 _ finC_31).2.1)).2
          have s105_ := y13_.len9 (y13_.ref (y13_.ptr ptrC_36) (y13_.2.1 _ finC_31).2.1) (by decide)
          have s106_ := g.smk
          unfold SmK at s106_
          have n1_ := rgI a24_100
          have n2_ := rgI v2_1
          have n4_ := lo_1k
          have n4_ := t_addD (a := v2_1) (b := Int32.ofInt 1)
          have n5_ := rgI (v2_1 + Int32.ofInt 1)
          omega
      · unfold w_X9_findReached_J25
        intro y14_ y15_ y16_
        refine ⟨?_, ?_⟩
        · have s107_ := (g.row (y14_.ref (y14_.ptr ptrC_39) (y14_.2.1 _ finC_31).2.1)).2
          have s108_ := y14_.len9 (y14_.ref (y14_.ptr ptrC_36) (y14_.2.1 _ finC_31).2.1) (by decide)
          have s109_ := g.smk
          unfold SmK at s109_
          have n1_ := rgI v2_1
          omega
        intro S23_110 eS23_110 y17_ y18_
        have f111_ : cfr [306] [] U2 S23_110 := by rw [eS23_110]; exact cfr.aI y17_ (by decide)
        have o112_ : qO S23_110 66 0 = qO U2 66 0 := qO_eq (f111_.kO (y14_.2.1 _ finC_31).2.1 (by decide) (by decide))
        have t113_ : (qI S23_110 (qO S23_110 66 0) 2).toInt = (qI U2 (qO U2 66 0) 2).toInt := by rw [o112_]; exact congrArg Int32.toInt (f111_.kI (j := 2) (y14_.ref (y14_.ptr ptrC_39) (y14_.2.1 _ finC_31).2.1) (by decide) (by decide))
        have t114_ : (qI S23_110 (qO S23_110 66 0) 9).toInt = (qI U2 (qO U2 66 0) 9).toInt := by rw [o112_]; exact congrArg Int32.toInt (f111_.kI (j := 9) (y14_.ref (y14_.ptr ptrC_39) (y14_.2.1 _ finC_31).2.1) (by decide) (by decide))
        have t115_ : (qI S23_110 (qO S23_110 66 0) 4).toInt = (qI U2 (qO U2 66 0) 4).toInt := by rw [o112_]; exact congrArg Int32.toInt (f111_.kI (j := 4) (y14_.ref (y14_.ptr ptrC_39) (y14_.2.1 _ finC_31).2.1) (by decide) (by decide))
        have t116_ : (qN S23_110 (qO S23_110 (qO S23_110 66 0) 1) : Int) = (qN U2 (qO U2 (qO U2 66 0) 1) : Int) := by rw [o112_]; exact f111_.kL (j := 1) y14_ (y14_.ref (y14_.ptr ptrC_39) (y14_.2.1 _ finC_31).2.1) (g.row (y14_.ref (y14_.ptr ptrC_39) (y14_.2.1 _ finC_31).2.1)).1.2.1 (by decide) (by decide)
        have t117_ : (qN S23_110 (qO S23_110 (qO S23_110 66 0) 8) : Int) = (qN U2 (qO U2 (qO U2 66 0) 8) : Int) := by rw [o112_]; exact f111_.kL (j := 8) y14_ (y14_.ref (y14_.ptr ptrC_39) (y14_.2.1 _ finC_31).2.1) (g.row (y14_.ref (y14_.ptr ptrC_39) (y14_.2.1 _ finC_31).2.1)).1.2.2.2.2.2.2 (by decide) (by decide)
        have t118_ : (qN S23_110 (qO S23_110 (qO S23_110 66 0) 7) : Int) = (qN U2 (qO U2 (qO U2 66 0) 7) : Int) := by rw [o112_]; exact f111_.kL (j := 7) y14_ (y14_.ref (y14_.ptr ptrC_39) (y14_.2.1 _ finC_31).2.1) (g.row (y14_.ref (y14_.ptr ptrC_39) (y14_.2.1 _ finC_31).2.1)).1.2.2.2.2.2.1 (by decide) (by decide)
        have t119_ : (qN S23_110 (qO S23_110 (qO S23_110 66 0) 0) : Int) = (qN U2 (qO U2 (qO U2 66 0) 0) : Int) := by rw [o112_]; exact f111_.kL (j := 0) y14_ (y14_.ref (y14_.ptr ptrC_39) (y14_.2.1 _ finC_31).2.1) (g.row (y14_.ref (y14_.ptr ptrC_39) (y14_.2.1 _ finC_31).2.1)).1.1 (by decide) (by decide)
        have t120_ : (qN S23_110 (qO S23_110 (qO S23_110 66 0) 6) : Int) = (qN U2 (qO U2 (qO U2 66 0) 6) : Int) := by rw [o112_]; exact f111_.kL (j := 6) y14_ (y14_.ref (y14_.ptr ptrC_39) (y14_.2.1 _ finC_31).2.1) (g.row (y14_.ref (y14_.ptr ptrC_39) (y14_.2.1 _ finC_31).2.1)).1.2.2.2.2.1 (by decide) (by decide)
        have t121_ : (qN S23_110 (qO S23_110 (qO S23_110 66 0) 3) : Int) = (qN U2 (qO U2 (qO U2 66 0) 3) : Int) := by rw [o112_]; exact f111_.kL (j := 3) y14_ (y14_.ref (y14_.ptr ptrC_39) (y14_.2.1 _ finC_31).2.1) (g.row (y14_.ref (y14_.ptr ptrC_39) (y14_.2.1 _ finC_31).2.1)).1.2.2.1 (by decide) (by decide)
        have t122_ : (qN S23_110 (qO S23_110 (qO S23_110 66 0) 5) : Int) = (qN U2 (qO U2 (qO U2 66 0) 5) : Int) := by rw [o112_]; exact f111_.kL (j := 5) y14_ (y14_.ref (y14_.ptr ptrC_39) (y14_.2.1 _ finC_31).2.1) (g.row (y14_.ref (y14_.ptr ptrC_39) (y14_.2.1 _ finC_31).2.1)).1.2.2.2.1 (by decide) (by decide)
        have t123_ : (qN S23_110 (qO S23_110 66 3) : Int) = (qN U2 (qO U2 66 3) : Int) := f111_.kL (j := 3) y14_ (y14_.2.1 _ finC_31).2.1 (y14_.ptr ptrC_36) (by decide) (by decide)
        have g : ShC B S23_110 := ShC.ws y14_ g f111_ (by rw [eS23_110]; rfl) (by rw [eS23_110]; rfl) (by rw [eS23_110]; rfl) rfl rfl
        intro a24_124 ea24_124 
        have ga24_124 := congrArg Int32.toInt ea24_124
        refine ih2 g ?_ ?_
        · have s125_ := (g.row (y18_.ref (y18_.ptr ptrC_39) (y18_.2.1 _ finC_31).2.1)).2
          have s126_ := y18_.len9 (y18_.ref (y18_.ptr ptrC_36) (y18_.2.1 _ finC_31).2.1) (by decide)
          have s127_ := g.smk
          unfold SmK at s127_
          have n1_ := rgI a24_124
          have n2_ := rgI v2_1
          have n4_ := lo_1k
          have n4_ := t_addD (a := v2_1) (b := Int32.ofInt 1)
          have n5_ := rgI (v2_1 + Int32.ofInt 1)
          omega
        · have s128_ := (g.row (y18_.ref (y18_.ptr ptrC_39) (y18_.2.1 _ finC_31).2.1)).2
          have s129_ := y18_.len9 (y18_.ref (y18_.ptr ptrC_36) (y18_.2.1 _ finC_31).2.1) (by decide)
          have s130_ := g.smk
          unfold SmK at s130_
          have n1_ := rgI a24_124
          have n2_ := rgI v2_1
          have n4_ := lo_1k
          have n4_ := t_addD (a := v2_1) (b := Int32.ofInt 1)
          have n5_ := rgI (v2_1 + Int32.ofInt 1)
          omega
set_option maxRecDepth 100000 in
theorem sgX9_findReached {B : Nat × Nat} {S : MS} (hw : wfC S) (g : ShC B S) : wX9_findReached S (fun u => ShC B u ∧ (True)) := by
  unfold wX9_findReached
  refine ⟨(2147483648 - (0 : Int32).toInt).toNat + 1, ?_⟩
  refine sg_X9_findReached_L2  _ g ?_ ?_
  · have s131_ := (g.row (hw.ref (hw.ptr ptrC_39) (hw.2.1 _ finC_31).2.1)).2
    have s132_ := hw.len9 (hw.ref (hw.ptr ptrC_36) (hw.2.1 _ finC_31).2.1) (by decide)
    have s133_ := g.smk
    unfold SmK at s133_
    have n1_ := li_0k
    omega
  · have s134_ := (g.row (hw.ref (hw.ptr ptrC_39) (hw.2.1 _ finC_31).2.1)).2
    have s135_ := hw.len9 (hw.ref (hw.ptr ptrC_36) (hw.2.1 _ finC_31).2.1) (by decide)
    have s136_ := g.smk
    unfold SmK at s136_
    have n1_ := li_0k
    omega
set_option maxRecDepth 100000 in
theorem sgX9_isPassedOn {B : Nat × Nat} {S : MS} {x1 : Int32} (hw : wfC S) (g : ShC B S) : wX9_isPassedOn S x1 (fun _ u => ShC B u ∧ (True)) := by
  unfold wX9_isPassedOn
  refine ⟨?_, ?_⟩
  · exact (dd_X8_opAt hw g (hw.ref (hw.ptr ptrC_39) (hw.2.1 _ finC_31).2.1))
  intro a5_0 ea5_0 
  have ga5_0 := congrArg Int32.toInt ea5_0
  refine ⟨?_, ?_⟩
  · exact (dd_X8_opAt hw g (hw.ref (hw.ptr ptrC_39) (hw.2.1 _ finC_31).2.1))
  intro a11_1 ea11_1 
  have ga11_1 := congrArg Int32.toInt ea11_1
  refine ⟨fun c2_ => ?_, fun c2_ => ?_⟩
  · refine ⟨fun c3_ => ?_, fun c3_ => ?_⟩
    · unfold w_X9_isPassedOn_J56
      intro y1_
      unfold w_X9_isPassedOn_J61
      intro y2_ y3_
      refine ⟨fun c4_ => ?_, fun c4_ => ?_⟩
      · unfold w_X9_isPassedOn_J109
        intro y4_
        exact ⟨g, trivial⟩
      · refine ⟨?_, ?_⟩
        · exact (dd_X8_localOf y2_ g (y2_.ref (y2_.ptr ptrC_39) (y2_.2.1 _ finC_31).2.1))
        refine ⟨?_, ?_⟩
        · exact (dd_X8_localOf y2_ g (y2_.ref (y2_.ptr ptrC_39) (y2_.2.1 _ finC_31).2.1))
        refine ⟨fun c5_ => ?_, fun c5_ => ?_⟩
        · refine ⟨_, frX9_liveBehind y2_ (sgX9_liveBehind y2_ g), ?_⟩
          intro r25_6 S26_6 q5_ y6_ y7_
          have o7_ : qO S26_6 66 0 = qO S 66 0 := qO_eq (q5_.2.kO (y2_.2.1 _ finC_31).2.1 (by decide) (by decide))
          have t8_ : (qI S26_6 (qO S26_6 66 0) 2).toInt = (qI S (qO S 66 0) 2).toInt := by rw [o7_]; exact congrArg Int32.toInt (q5_.2.kI (j := 2) (y2_.ref (y2_.ptr ptrC_39) (y2_.2.1 _ finC_31).2.1) (by decide) (by decide))
          have t9_ : (qI S26_6 (qO S26_6 66 0) 9).toInt = (qI S (qO S 66 0) 9).toInt := by rw [o7_]; exact congrArg Int32.toInt (q5_.2.kI (j := 9) (y2_.ref (y2_.ptr ptrC_39) (y2_.2.1 _ finC_31).2.1) (by decide) (by decide))
          have t10_ : (qI S26_6 (qO S26_6 66 0) 4).toInt = (qI S (qO S 66 0) 4).toInt := by rw [o7_]; exact congrArg Int32.toInt (q5_.2.kI (j := 4) (y2_.ref (y2_.ptr ptrC_39) (y2_.2.1 _ finC_31).2.1) (by decide) (by decide))
          have t11_ : (qN S26_6 (qO S26_6 (qO S26_6 66 0) 1) : Int) = (qN S (qO S (qO S 66 0) 1) : Int) := by rw [o7_]; exact q5_.2.kL (j := 1) y2_ (y2_.ref (y2_.ptr ptrC_39) (y2_.2.1 _ finC_31).2.1) (g.row (y2_.ref (y2_.ptr ptrC_39) (y2_.2.1 _ finC_31).2.1)).1.2.1 (by decide) (by decide)
          have t12_ : (qN S26_6 (qO S26_6 (qO S26_6 66 0) 8) : Int) = (qN S (qO S (qO S 66 0) 8) : Int) := by rw [o7_]; exact q5_.2.kL (j := 8) y2_ (y2_.ref (y2_.ptr ptrC_39) (y2_.2.1 _ finC_31).2.1) (g.row (y2_.ref (y2_.ptr ptrC_39) (y2_.2.1 _ finC_31).2.1)).1.2.2.2.2.2.2 (by decide) (by decide)
          have t13_ : (qN S26_6 (qO S26_6 (qO S26_6 66 0) 7) : Int) = (qN S (qO S (qO S 66 0) 7) : Int) := by rw [o7_]; exact q5_.2.kL (j := 7) y2_ (y2_.ref (y2_.ptr ptrC_39) (y2_.2.1 _ finC_31).2.1) (g.row (y2_.ref (y2_.ptr ptrC_39) (y2_.2.1 _ finC_31).2.1)).1.2.2.2.2.2.1 (by decide) (by decide)
          have t14_ : (qN S26_6 (qO S26_6 (qO S26_6 66 0) 0) : Int) = (qN S (qO S (qO S 66 0) 0) : Int) := by rw [o7_]; exact q5_.2.kL (j := 0) y2_ (y2_.ref (y2_.ptr ptrC_39) (y2_.2.1 _ finC_31).2.1) (g.row (y2_.ref (y2_.ptr ptrC_39) (y2_.2.1 _ finC_31).2.1)).1.1 (by decide) (by decide)
          have t15_ : (qN S26_6 (qO S26_6 (qO S26_6 66 0) 6) : Int) = (qN S (qO S (qO S 66 0) 6) : Int) := by rw [o7_]; exact q5_.2.kL (j := 6) y2_ (y2_.ref (y2_.ptr ptrC_39) (y2_.2.1 _ finC_31).2.1) (g.row (y2_.ref (y2_.ptr ptrC_39) (y2_.2.1 _ finC_31).2.1)).1.2.2.2.2.1 (by decide) (by decide)
          have t16_ : (qN S26_6 (qO S26_6 (qO S26_6 66 0) 3) : Int) = (qN S (qO S (qO S 66 0) 3) : Int) := by rw [o7_]; exact q5_.2.kL (j := 3) y2_ (y2_.ref (y2_.ptr ptrC_39) (y2_.2.1 _ finC_31).2.1) (g.row (y2_.ref (y2_.ptr ptrC_39) (y2_.2.1 _ finC_31).2.1)).1.2.2.1 (by decide) (by decide)
          have t17_ : (qN S26_6 (qO S26_6 (qO S26_6 66 0) 5) : Int) = (qN S (qO S (qO S 66 0) 5) : Int) := by rw [o7_]; exact q5_.2.kL (j := 5) y2_ (y2_.ref (y2_.ptr ptrC_39) (y2_.2.1 _ finC_31).2.1) (g.row (y2_.ref (y2_.ptr ptrC_39) (y2_.2.1 _ finC_31).2.1)).1.2.2.2.1 (by decide) (by decide)
          have g : ShC B S26_6 := q5_.1.1
          refine ⟨?_, ?_⟩
          · exact (dd_X9_localBits y6_ g)
          refine ⟨fun c18_ => ?_, fun c18_ => ?_⟩
          · exact ⟨g, trivial⟩
          · unfold w_X9_isPassedOn_J109
            intro y8_
            exact ⟨g, trivial⟩
        · unfold w_X9_isPassedOn_J109
          intro y9_
          exact ⟨g, trivial⟩
    · unfold w_X9_isPassedOn_J32
      intro y10_
      refine ⟨fun c19_ => ?_, fun c19_ => ?_⟩
      · refine ⟨fun c20_ => ?_, fun c20_ => ?_⟩
        · unfold w_X9_isPassedOn_J56
          intro y11_
          unfold w_X9_isPassedOn_J61
          intro y12_ y13_
          refine ⟨fun c21_ => ?_, fun c21_ => ?_⟩
          · unfold w_X9_isPassedOn_J109
            intro y14_
            exact ⟨g, trivial⟩
          · refine ⟨?_, ?_⟩
            · exact (dd_X8_localOf y12_ g (y12_.ref (y12_.ptr ptrC_39) (y12_.2.1 _ finC_31).2.1))
            refine ⟨?_, ?_⟩
            · exact (dd_X8_localOf y12_ g (y12_.ref (y12_.ptr ptrC_39) (y12_.2.1 _ finC_31).2.1))
            refine ⟨fun c22_ => ?_, fun c22_ => ?_⟩
            · refine ⟨_, frX9_liveBehind y12_ (sgX9_liveBehind y12_ g), ?_⟩
              intro r25_23 S26_23 q15_ y16_ y17_
              have o24_ : qO S26_23 66 0 = qO S 66 0 := qO_eq (q15_.2.kO (y12_.2.1 _ finC_31).2.1 (by decide) (by decide))
              have t25_ : (qI S26_23 (qO S26_23 66 0) 2).toInt = (qI S (qO S 66 0) 2).toInt := by rw [o24_]; exact congrArg Int32.toInt (q15_.2.kI (j := 2) (y12_.ref (y12_.ptr ptrC_39) (y12_.2.1 _ finC_31).2.1) (by decide) (by decide))
              have t26_ : (qI S26_23 (qO S26_23 66 0) 9).toInt = (qI S (qO S 66 0) 9).toInt := by rw [o24_]; exact congrArg Int32.toInt (q15_.2.kI (j := 9) (y12_.ref (y12_.ptr ptrC_39) (y12_.2.1 _ finC_31).2.1) (by decide) (by decide))
              have t27_ : (qI S26_23 (qO S26_23 66 0) 4).toInt = (qI S (qO S 66 0) 4).toInt := by rw [o24_]; exact congrArg Int32.toInt (q15_.2.kI (j := 4) (y12_.ref (y12_.ptr ptrC_39) (y12_.2.1 _ finC_31).2.1) (by decide) (by decide))
              have t28_ : (qN S26_23 (qO S26_23 (qO S26_23 66 0) 1) : Int) = (qN S (qO S (qO S 66 0) 1) : Int) := by rw [o24_]; exact q15_.2.kL (j := 1) y12_ (y12_.ref (y12_.ptr ptrC_39) (y12_.2.1 _ finC_31).2.1) (g.row (y12_.ref (y12_.ptr ptrC_39) (y12_.2.1 _ finC_31).2.1)).1.2.1 (by decide) (by decide)
              have t29_ : (qN S26_23 (qO S26_23 (qO S26_23 66 0) 8) : Int) = (qN S (qO S (qO S 66 0) 8) : Int) := by rw [o24_]; exact q15_.2.kL (j := 8) y12_ (y12_.ref (y12_.ptr ptrC_39) (y12_.2.1 _ finC_31).2.1) (g.row (y12_.ref (y12_.ptr ptrC_39) (y12_.2.1 _ finC_31).2.1)).1.2.2.2.2.2.2 (by decide) (by decide)
              have t30_ : (qN S26_23 (qO S26_23 (qO S26_23 66 0) 7) : Int) = (qN S (qO S (qO S 66 0) 7) : Int) := by rw [o24_]; exact q15_.2.kL (j := 7) y12_ (y12_.ref (y12_.ptr ptrC_39) (y12_.2.1 _ finC_31).2.1) (g.row (y12_.ref (y12_.ptr ptrC_39) (y12_.2.1 _ finC_31).2.1)).1.2.2.2.2.2.1 (by decide) (by decide)
              have t31_ : (qN S26_23 (qO S26_23 (qO S26_23 66 0) 0) : Int) = (qN S (qO S (qO S 66 0) 0) : Int) := by rw [o24_]; exact q15_.2.kL (j := 0) y12_ (y12_.ref (y12_.ptr ptrC_39) (y12_.2.1 _ finC_31).2.1) (g.row (y12_.ref (y12_.ptr ptrC_39) (y12_.2.1 _ finC_31).2.1)).1.1 (by decide) (by decide)
              have t32_ : (qN S26_23 (qO S26_23 (qO S26_23 66 0) 6) : Int) = (qN S (qO S (qO S 66 0) 6) : Int) := by rw [o24_]; exact q15_.2.kL (j := 6) y12_ (y12_.ref (y12_.ptr ptrC_39) (y12_.2.1 _ finC_31).2.1) (g.row (y12_.ref (y12_.ptr ptrC_39) (y12_.2.1 _ finC_31).2.1)).1.2.2.2.2.1 (by decide) (by decide)
              have t33_ : (qN S26_23 (qO S26_23 (qO S26_23 66 0) 3) : Int) = (qN S (qO S (qO S 66 0) 3) : Int) := by rw [o24_]; exact q15_.2.kL (j := 3) y12_ (y12_.ref (y12_.ptr ptrC_39) (y12_.2.1 _ finC_31).2.1) (g.row (y12_.ref (y12_.ptr ptrC_39) (y12_.2.1 _ finC_31).2.1)).1.2.2.1 (by decide) (by decide)
              have t34_ : (qN S26_23 (qO S26_23 (qO S26_23 66 0) 5) : Int) = (qN S (qO S (qO S 66 0) 5) : Int) := by rw [o24_]; exact q15_.2.kL (j := 5) y12_ (y12_.ref (y12_.ptr ptrC_39) (y12_.2.1 _ finC_31).2.1) (g.row (y12_.ref (y12_.ptr ptrC_39) (y12_.2.1 _ finC_31).2.1)).1.2.2.2.1 (by decide) (by decide)
              have g : ShC B S26_23 := q15_.1.1
              refine ⟨?_, ?_⟩
              · exact (dd_X9_localBits y16_ g)
              refine ⟨fun c35_ => ?_, fun c35_ => ?_⟩
              · exact ⟨g, trivial⟩
              · unfold w_X9_isPassedOn_J109
                intro y18_
                exact ⟨g, trivial⟩
            · unfold w_X9_isPassedOn_J109
              intro y19_
              exact ⟨g, trivial⟩
        · unfold w_X9_isPassedOn_J44
          intro y20_
          refine ⟨fun c36_ => ?_, fun c36_ => ?_⟩
          · refine ⟨fun c37_ => ?_, fun c37_ => ?_⟩
            · unfold w_X9_isPassedOn_J56
              intro y21_
              unfold w_X9_isPassedOn_J61
              intro y22_ y23_
              refine ⟨fun c38_ => ?_, fun c38_ => ?_⟩
              · unfold w_X9_isPassedOn_J109
                intro y24_
                exact ⟨g, trivial⟩
              · refine ⟨?_, ?_⟩
                · exact (dd_X8_localOf y22_ g (y22_.ref (y22_.ptr ptrC_39) (y22_.2.1 _ finC_31).2.1))
                refine ⟨?_, ?_⟩
                · exact (dd_X8_localOf y22_ g (y22_.ref (y22_.ptr ptrC_39) (y22_.2.1 _ finC_31).2.1))
                refine ⟨fun c39_ => ?_, fun c39_ => ?_⟩
                · refine ⟨_, frX9_liveBehind y22_ (sgX9_liveBehind y22_ g), ?_⟩
                  intro r25_40 S26_40 q25_ y26_ y27_
                  have o41_ : qO S26_40 66 0 = qO S 66 0 := qO_eq (q25_.2.kO (y22_.2.1 _ finC_31).2.1 (by decide) (by decide))
                  have t42_ : (qI S26_40 (qO S26_40 66 0) 2).toInt = (qI S (qO S 66 0) 2).toInt := by rw [o41_]; exact congrArg Int32.toInt (q25_.2.kI (j := 2) (y22_.ref (y22_.ptr ptrC_39) (y22_.2.1 _ finC_31).2.1) (by decide) (by decide))
                  have t43_ : (qI S26_40 (qO S26_40 66 0) 9).toInt = (qI S (qO S 66 0) 9).toInt := by rw [o41_]; exact congrArg Int32.toInt (q25_.2.kI (j := 9) (y22_.ref (y22_.ptr ptrC_39) (y22_.2.1 _ finC_31).2.1) (by decide) (by decide))
                  have t44_ : (qI S26_40 (qO S26_40 66 0) 4).toInt = (qI S (qO S 66 0) 4).toInt := by rw [o41_]; exact congrArg Int32.toInt (q25_.2.kI (j := 4) (y22_.ref (y22_.ptr ptrC_39) (y22_.2.1 _ finC_31).2.1) (by decide) (by decide))
                  have t45_ : (qN S26_40 (qO S26_40 (qO S26_40 66 0) 1) : Int) = (qN S (qO S (qO S 66 0) 1) : Int) := by rw [o41_]; exact q25_.2.kL (j := 1) y22_ (y22_.ref (y22_.ptr ptrC_39) (y22_.2.1 _ finC_31).2.1) (g.row (y22_.ref (y22_.ptr ptrC_39) (y22_.2.1 _ finC_31).2.1)).1.2.1 (by decide) (by decide)
                  have t46_ : (qN S26_40 (qO S26_40 (qO S26_40 66 0) 8) : Int) = (qN S (qO S (qO S 66 0) 8) : Int) := by rw [o41_]; exact q25_.2.kL (j := 8) y22_ (y22_.ref (y22_.ptr ptrC_39) (y22_.2.1 _ finC_31).2.1) (g.row (y22_.ref (y22_.ptr ptrC_39) (y22_.2.1 _ finC_31).2.1)).1.2.2.2.2.2.2 (by decide) (by decide)
                  have t47_ : (qN S26_40 (qO S26_40 (qO S26_40 66 0) 7) : Int) = (qN S (qO S (qO S 66 0) 7) : Int) := by rw [o41_]; exact q25_.2.kL (j := 7) y22_ (y22_.ref (y22_.ptr ptrC_39) (y22_.2.1 _ finC_31).2.1) (g.row (y22_.ref (y22_.ptr ptrC_39) (y22_.2.1 _ finC_31).2.1)).1.2.2.2.2.2.1 (by decide) (by decide)
                  have t48_ : (qN S26_40 (qO S26_40 (qO S26_40 66 0) 0) : Int) = (qN S (qO S (qO S 66 0) 0) : Int) := by rw [o41_]; exact q25_.2.kL (j := 0) y22_ (y22_.ref (y22_.ptr ptrC_39) (y22_.2.1 _ finC_31).2.1) (g.row (y22_.ref (y22_.ptr ptrC_39) (y22_.2.1 _ finC_31).2.1)).1.1 (by decide) (by decide)
                  have t49_ : (qN S26_40 (qO S26_40 (qO S26_40 66 0) 6) : Int) = (qN S (qO S (qO S 66 0) 6) : Int) := by rw [o41_]; exact q25_.2.kL (j := 6) y22_ (y22_.ref (y22_.ptr ptrC_39) (y22_.2.1 _ finC_31).2.1) (g.row (y22_.ref (y22_.ptr ptrC_39) (y22_.2.1 _ finC_31).2.1)).1.2.2.2.2.1 (by decide) (by decide)
                  have t50_ : (qN S26_40 (qO S26_40 (qO S26_40 66 0) 3) : Int) = (qN S (qO S (qO S 66 0) 3) : Int) := by rw [o41_]; exact q25_.2.kL (j := 3) y22_ (y22_.ref (y22_.ptr ptrC_39) (y22_.2.1 _ finC_31).2.1) (g.row (y22_.ref (y22_.ptr ptrC_39) (y22_.2.1 _ finC_31).2.1)).1.2.2.1 (by decide) (by decide)
                  have t51_ : (qN S26_40 (qO S26_40 (qO S26_40 66 0) 5) : Int) = (qN S (qO S (qO S 66 0) 5) : Int) := by rw [o41_]; exact q25_.2.kL (j := 5) y22_ (y22_.ref (y22_.ptr ptrC_39) (y22_.2.1 _ finC_31).2.1) (g.row (y22_.ref (y22_.ptr ptrC_39) (y22_.2.1 _ finC_31).2.1)).1.2.2.2.1 (by decide) (by decide)
                  have g : ShC B S26_40 := q25_.1.1
                  refine ⟨?_, ?_⟩
                  · exact (dd_X9_localBits y26_ g)
                  refine ⟨fun c52_ => ?_, fun c52_ => ?_⟩
                  · exact ⟨g, trivial⟩
                  · unfold w_X9_isPassedOn_J109
                    intro y28_
                    exact ⟨g, trivial⟩
                · unfold w_X9_isPassedOn_J109
                  intro y29_
                  exact ⟨g, trivial⟩
            · unfold w_X9_isPassedOn_J60
              intro y30_
              unfold w_X9_isPassedOn_J61
              intro y31_ y32_
              refine ⟨fun c53_ => ?_, fun c53_ => ?_⟩
              · unfold w_X9_isPassedOn_J109
                intro y33_
                exact ⟨g, trivial⟩
              · refine ⟨?_, ?_⟩
                · exact (dd_X8_localOf y31_ g (y31_.ref (y31_.ptr ptrC_39) (y31_.2.1 _ finC_31).2.1))
                refine ⟨?_, ?_⟩
                · exact (dd_X8_localOf y31_ g (y31_.ref (y31_.ptr ptrC_39) (y31_.2.1 _ finC_31).2.1))
                refine ⟨fun c54_ => ?_, fun c54_ => ?_⟩
                · refine ⟨_, frX9_liveBehind y31_ (sgX9_liveBehind y31_ g), ?_⟩
                  intro r25_55 S26_55 q34_ y35_ y36_
                  have o56_ : qO S26_55 66 0 = qO S 66 0 := qO_eq (q34_.2.kO (y31_.2.1 _ finC_31).2.1 (by decide) (by decide))
                  have t57_ : (qI S26_55 (qO S26_55 66 0) 2).toInt = (qI S (qO S 66 0) 2).toInt := by rw [o56_]; exact congrArg Int32.toInt (q34_.2.kI (j := 2) (y31_.ref (y31_.ptr ptrC_39) (y31_.2.1 _ finC_31).2.1) (by decide) (by decide))
                  have t58_ : (qI S26_55 (qO S26_55 66 0) 9).toInt = (qI S (qO S 66 0) 9).toInt := by rw [o56_]; exact congrArg Int32.toInt (q34_.2.kI (j := 9) (y31_.ref (y31_.ptr ptrC_39) (y31_.2.1 _ finC_31).2.1) (by decide) (by decide))
                  have t59_ : (qI S26_55 (qO S26_55 66 0) 4).toInt = (qI S (qO S 66 0) 4).toInt := by rw [o56_]; exact congrArg Int32.toInt (q34_.2.kI (j := 4) (y31_.ref (y31_.ptr ptrC_39) (y31_.2.1 _ finC_31).2.1) (by decide) (by decide))
                  have t60_ : (qN S26_55 (qO S26_55 (qO S26_55 66 0) 1) : Int) = (qN S (qO S (qO S 66 0) 1) : Int) := by rw [o56_]; exact q34_.2.kL (j := 1) y31_ (y31_.ref (y31_.ptr ptrC_39) (y31_.2.1 _ finC_31).2.1) (g.row (y31_.ref (y31_.ptr ptrC_39) (y31_.2.1 _ finC_31).2.1)).1.2.1 (by decide) (by decide)
                  have t61_ : (qN S26_55 (qO S26_55 (qO S26_55 66 0) 8) : Int) = (qN S (qO S (qO S 66 0) 8) : Int) := by rw [o56_]; exact q34_.2.kL (j := 8) y31_ (y31_.ref (y31_.ptr ptrC_39) (y31_.2.1 _ finC_31).2.1) (g.row (y31_.ref (y31_.ptr ptrC_39) (y31_.2.1 _ finC_31).2.1)).1.2.2.2.2.2.2 (by decide) (by decide)
                  have t62_ : (qN S26_55 (qO S26_55 (qO S26_55 66 0) 7) : Int) = (qN S (qO S (qO S 66 0) 7) : Int) := by rw [o56_]; exact q34_.2.kL (j := 7) y31_ (y31_.ref (y31_.ptr ptrC_39) (y31_.2.1 _ finC_31).2.1) (g.row (y31_.ref (y31_.ptr ptrC_39) (y31_.2.1 _ finC_31).2.1)).1.2.2.2.2.2.1 (by decide) (by decide)
                  have t63_ : (qN S26_55 (qO S26_55 (qO S26_55 66 0) 0) : Int) = (qN S (qO S (qO S 66 0) 0) : Int) := by rw [o56_]; exact q34_.2.kL (j := 0) y31_ (y31_.ref (y31_.ptr ptrC_39) (y31_.2.1 _ finC_31).2.1) (g.row (y31_.ref (y31_.ptr ptrC_39) (y31_.2.1 _ finC_31).2.1)).1.1 (by decide) (by decide)
                  have t64_ : (qN S26_55 (qO S26_55 (qO S26_55 66 0) 6) : Int) = (qN S (qO S (qO S 66 0) 6) : Int) := by rw [o56_]; exact q34_.2.kL (j := 6) y31_ (y31_.ref (y31_.ptr ptrC_39) (y31_.2.1 _ finC_31).2.1) (g.row (y31_.ref (y31_.ptr ptrC_39) (y31_.2.1 _ finC_31).2.1)).1.2.2.2.2.1 (by decide) (by decide)
                  have t65_ : (qN S26_55 (qO S26_55 (qO S26_55 66 0) 3) : Int) = (qN S (qO S (qO S 66 0) 3) : Int) := by rw [o56_]; exact q34_.2.kL (j := 3) y31_ (y31_.ref (y31_.ptr ptrC_39) (y31_.2.1 _ finC_31).2.1) (g.row (y31_.ref (y31_.ptr ptrC_39) (y31_.2.1 _ finC_31).2.1)).1.2.2.1 (by decide) (by decide)
                  have t66_ : (qN S26_55 (qO S26_55 (qO S26_55 66 0) 5) : Int) = (qN S (qO S (qO S 66 0) 5) : Int) := by rw [o56_]; exact q34_.2.kL (j := 5) y31_ (y31_.ref (y31_.ptr ptrC_39) (y31_.2.1 _ finC_31).2.1) (g.row (y31_.ref (y31_.ptr ptrC_39) (y31_.2.1 _ finC_31).2.1)).1.2.2.2.1 (by decide) (by decide)
                  have g : ShC B S26_55 := q34_.1.1
                  refine ⟨?_, ?_⟩
                  · exact (dd_X9_localBits y35_ g)
                  refine ⟨fun c67_ => ?_, fun c67_ => ?_⟩
                  · exact ⟨g, trivial⟩
                  · unfold w_X9_isPassedOn_J109
                    intro y37_
                    exact ⟨g, trivial⟩
                · unfold w_X9_isPassedOn_J109
                  intro y38_
                  exact ⟨g, trivial⟩
          · unfold w_X9_isPassedOn_J60
            intro y39_
            unfold w_X9_isPassedOn_J61
            intro y40_ y41_
            refine ⟨fun c68_ => ?_, fun c68_ => ?_⟩
            · unfold w_X9_isPassedOn_J109
              intro y42_
              exact ⟨g, trivial⟩
            · refine ⟨?_, ?_⟩
              · exact (dd_X8_localOf y40_ g (y40_.ref (y40_.ptr ptrC_39) (y40_.2.1 _ finC_31).2.1))
              refine ⟨?_, ?_⟩
              · exact (dd_X8_localOf y40_ g (y40_.ref (y40_.ptr ptrC_39) (y40_.2.1 _ finC_31).2.1))
              refine ⟨fun c69_ => ?_, fun c69_ => ?_⟩
              · refine ⟨_, frX9_liveBehind y40_ (sgX9_liveBehind y40_ g), ?_⟩
                intro r25_70 S26_70 q43_ y44_ y45_
                have o71_ : qO S26_70 66 0 = qO S 66 0 := qO_eq (q43_.2.kO (y40_.2.1 _ finC_31).2.1 (by decide) (by decide))
                have t72_ : (qI S26_70 (qO S26_70 66 0) 2).toInt = (qI S (qO S 66 0) 2).toInt := by rw [o71_]; exact congrArg Int32.toInt (q43_.2.kI (j := 2) (y40_.ref (y40_.ptr ptrC_39) (y40_.2.1 _ finC_31).2.1) (by decide) (by decide))
                have t73_ : (qI S26_70 (qO S26_70 66 0) 9).toInt = (qI S (qO S 66 0) 9).toInt := by rw [o71_]; exact congrArg Int32.toInt (q43_.2.kI (j := 9) (y40_.ref (y40_.ptr ptrC_39) (y40_.2.1 _ finC_31).2.1) (by decide) (by decide))
                have t74_ : (qI S26_70 (qO S26_70 66 0) 4).toInt = (qI S (qO S 66 0) 4).toInt := by rw [o71_]; exact congrArg Int32.toInt (q43_.2.kI (j := 4) (y40_.ref (y40_.ptr ptrC_39) (y40_.2.1 _ finC_31).2.1) (by decide) (by decide))
                have t75_ : (qN S26_70 (qO S26_70 (qO S26_70 66 0) 1) : Int) = (qN S (qO S (qO S 66 0) 1) : Int) := by rw [o71_]; exact q43_.2.kL (j := 1) y40_ (y40_.ref (y40_.ptr ptrC_39) (y40_.2.1 _ finC_31).2.1) (g.row (y40_.ref (y40_.ptr ptrC_39) (y40_.2.1 _ finC_31).2.1)).1.2.1 (by decide) (by decide)
                have t76_ : (qN S26_70 (qO S26_70 (qO S26_70 66 0) 8) : Int) = (qN S (qO S (qO S 66 0) 8) : Int) := by rw [o71_]; exact q43_.2.kL (j := 8) y40_ (y40_.ref (y40_.ptr ptrC_39) (y40_.2.1 _ finC_31).2.1) (g.row (y40_.ref (y40_.ptr ptrC_39) (y40_.2.1 _ finC_31).2.1)).1.2.2.2.2.2.2 (by decide) (by decide)
                have t77_ : (qN S26_70 (qO S26_70 (qO S26_70 66 0) 7) : Int) = (qN S (qO S (qO S 66 0) 7) : Int) := by rw [o71_]; exact q43_.2.kL (j := 7) y40_ (y40_.ref (y40_.ptr ptrC_39) (y40_.2.1 _ finC_31).2.1) (g.row (y40_.ref (y40_.ptr ptrC_39) (y40_.2.1 _ finC_31).2.1)).1.2.2.2.2.2.1 (by decide) (by decide)
                have t78_ : (qN S26_70 (qO S26_70 (qO S26_70 66 0) 0) : Int) = (qN S (qO S (qO S 66 0) 0) : Int) := by rw [o71_]; exact q43_.2.kL (j := 0) y40_ (y40_.ref (y40_.ptr ptrC_39) (y40_.2.1 _ finC_31).2.1) (g.row (y40_.ref (y40_.ptr ptrC_39) (y40_.2.1 _ finC_31).2.1)).1.1 (by decide) (by decide)
                have t79_ : (qN S26_70 (qO S26_70 (qO S26_70 66 0) 6) : Int) = (qN S (qO S (qO S 66 0) 6) : Int) := by rw [o71_]; exact q43_.2.kL (j := 6) y40_ (y40_.ref (y40_.ptr ptrC_39) (y40_.2.1 _ finC_31).2.1) (g.row (y40_.ref (y40_.ptr ptrC_39) (y40_.2.1 _ finC_31).2.1)).1.2.2.2.2.1 (by decide) (by decide)
                have t80_ : (qN S26_70 (qO S26_70 (qO S26_70 66 0) 3) : Int) = (qN S (qO S (qO S 66 0) 3) : Int) := by rw [o71_]; exact q43_.2.kL (j := 3) y40_ (y40_.ref (y40_.ptr ptrC_39) (y40_.2.1 _ finC_31).2.1) (g.row (y40_.ref (y40_.ptr ptrC_39) (y40_.2.1 _ finC_31).2.1)).1.2.2.1 (by decide) (by decide)
                have t81_ : (qN S26_70 (qO S26_70 (qO S26_70 66 0) 5) : Int) = (qN S (qO S (qO S 66 0) 5) : Int) := by rw [o71_]; exact q43_.2.kL (j := 5) y40_ (y40_.ref (y40_.ptr ptrC_39) (y40_.2.1 _ finC_31).2.1) (g.row (y40_.ref (y40_.ptr ptrC_39) (y40_.2.1 _ finC_31).2.1)).1.2.2.2.1 (by decide) (by decide)
                have g : ShC B S26_70 := q43_.1.1
                refine ⟨?_, ?_⟩
                · exact (dd_X9_localBits y44_ g)
                refine ⟨fun c82_ => ?_, fun c82_ => ?_⟩
                · exact ⟨g, trivial⟩
                · unfold w_X9_isPassedOn_J109
                  intro y46_
                  exact ⟨g, trivial⟩
              · unfold w_X9_isPassedOn_J109
                intro y47_
                exact ⟨g, trivial⟩
      · unfold w_X9_isPassedOn_J44
        intro y48_
        refine ⟨fun c83_ => ?_, fun c83_ => ?_⟩
        · refine ⟨fun c84_ => ?_, fun c84_ => ?_⟩
          · unfold w_X9_isPassedOn_J56
            intro y49_
            unfold w_X9_isPassedOn_J61
            intro y50_ y51_
            refine ⟨fun c85_ => ?_, fun c85_ => ?_⟩
            · unfold w_X9_isPassedOn_J109
              intro y52_
              exact ⟨g, trivial⟩
            · refine ⟨?_, ?_⟩
              · exact (dd_X8_localOf y50_ g (y50_.ref (y50_.ptr ptrC_39) (y50_.2.1 _ finC_31).2.1))
              refine ⟨?_, ?_⟩
              · exact (dd_X8_localOf y50_ g (y50_.ref (y50_.ptr ptrC_39) (y50_.2.1 _ finC_31).2.1))
              refine ⟨fun c86_ => ?_, fun c86_ => ?_⟩
              · refine ⟨_, frX9_liveBehind y50_ (sgX9_liveBehind y50_ g), ?_⟩
                intro r25_87 S26_87 q53_ y54_ y55_
                have o88_ : qO S26_87 66 0 = qO S 66 0 := qO_eq (q53_.2.kO (y50_.2.1 _ finC_31).2.1 (by decide) (by decide))
                have t89_ : (qI S26_87 (qO S26_87 66 0) 2).toInt = (qI S (qO S 66 0) 2).toInt := by rw [o88_]; exact congrArg Int32.toInt (q53_.2.kI (j := 2) (y50_.ref (y50_.ptr ptrC_39) (y50_.2.1 _ finC_31).2.1) (by decide) (by decide))
                have t90_ : (qI S26_87 (qO S26_87 66 0) 9).toInt = (qI S (qO S 66 0) 9).toInt := by rw [o88_]; exact congrArg Int32.toInt (q53_.2.kI (j := 9) (y50_.ref (y50_.ptr ptrC_39) (y50_.2.1 _ finC_31).2.1) (by decide) (by decide))
                have t91_ : (qI S26_87 (qO S26_87 66 0) 4).toInt = (qI S (qO S 66 0) 4).toInt := by rw [o88_]; exact congrArg Int32.toInt (q53_.2.kI (j := 4) (y50_.ref (y50_.ptr ptrC_39) (y50_.2.1 _ finC_31).2.1) (by decide) (by decide))
                have t92_ : (qN S26_87 (qO S26_87 (qO S26_87 66 0) 1) : Int) = (qN S (qO S (qO S 66 0) 1) : Int) := by rw [o88_]; exact q53_.2.kL (j := 1) y50_ (y50_.ref (y50_.ptr ptrC_39) (y50_.2.1 _ finC_31).2.1) (g.row (y50_.ref (y50_.ptr ptrC_39) (y50_.2.1 _ finC_31).2.1)).1.2.1 (by decide) (by decide)
                have t93_ : (qN S26_87 (qO S26_87 (qO S26_87 66 0) 8) : Int) = (qN S (qO S (qO S 66 0) 8) : Int) := by rw [o88_]; exact q53_.2.kL (j := 8) y50_ (y50_.ref (y50_.ptr ptrC_39) (y50_.2.1 _ finC_31).2.1) (g.row (y50_.ref (y50_.ptr ptrC_39) (y50_.2.1 _ finC_31).2.1)).1.2.2.2.2.2.2 (by decide) (by decide)
                have t94_ : (qN S26_87 (qO S26_87 (qO S26_87 66 0) 7) : Int) = (qN S (qO S (qO S 66 0) 7) : Int) := by rw [o88_]; exact q53_.2.kL (j := 7) y50_ (y50_.ref (y50_.ptr ptrC_39) (y50_.2.1 _ finC_31).2.1) (g.row (y50_.ref (y50_.ptr ptrC_39) (y50_.2.1 _ finC_31).2.1)).1.2.2.2.2.2.1 (by decide) (by decide)
                have t95_ : (qN S26_87 (qO S26_87 (qO S26_87 66 0) 0) : Int) = (qN S (qO S (qO S 66 0) 0) : Int) := by rw [o88_]; exact q53_.2.kL (j := 0) y50_ (y50_.ref (y50_.ptr ptrC_39) (y50_.2.1 _ finC_31).2.1) (g.row (y50_.ref (y50_.ptr ptrC_39) (y50_.2.1 _ finC_31).2.1)).1.1 (by decide) (by decide)
                have t96_ : (qN S26_87 (qO S26_87 (qO S26_87 66 0) 6) : Int) = (qN S (qO S (qO S 66 0) 6) : Int) := by rw [o88_]; exact q53_.2.kL (j := 6) y50_ (y50_.ref (y50_.ptr ptrC_39) (y50_.2.1 _ finC_31).2.1) (g.row (y50_.ref (y50_.ptr ptrC_39) (y50_.2.1 _ finC_31).2.1)).1.2.2.2.2.1 (by decide) (by decide)
                have t97_ : (qN S26_87 (qO S26_87 (qO S26_87 66 0) 3) : Int) = (qN S (qO S (qO S 66 0) 3) : Int) := by rw [o88_]; exact q53_.2.kL (j := 3) y50_ (y50_.ref (y50_.ptr ptrC_39) (y50_.2.1 _ finC_31).2.1) (g.row (y50_.ref (y50_.ptr ptrC_39) (y50_.2.1 _ finC_31).2.1)).1.2.2.1 (by decide) (by decide)
                have t98_ : (qN S26_87 (qO S26_87 (qO S26_87 66 0) 5) : Int) = (qN S (qO S (qO S 66 0) 5) : Int) := by rw [o88_]; exact q53_.2.kL (j := 5) y50_ (y50_.ref (y50_.ptr ptrC_39) (y50_.2.1 _ finC_31).2.1) (g.row (y50_.ref (y50_.ptr ptrC_39) (y50_.2.1 _ finC_31).2.1)).1.2.2.2.1 (by decide) (by decide)
                have g : ShC B S26_87 := q53_.1.1
                refine ⟨?_, ?_⟩
                · exact (dd_X9_localBits y54_ g)
                refine ⟨fun c99_ => ?_, fun c99_ => ?_⟩
                · exact ⟨g, trivial⟩
                · unfold w_X9_isPassedOn_J109
                  intro y56_
                  exact ⟨g, trivial⟩
              · unfold w_X9_isPassedOn_J109
                intro y57_
                exact ⟨g, trivial⟩
          · unfold w_X9_isPassedOn_J60
            intro y58_
            unfold w_X9_isPassedOn_J61
            intro y59_ y60_
            refine ⟨fun c100_ => ?_, fun c100_ => ?_⟩
            · unfold w_X9_isPassedOn_J109
              intro y61_
              exact ⟨g, trivial⟩
            · refine ⟨?_, ?_⟩
              · exact (dd_X8_localOf y59_ g (y59_.ref (y59_.ptr ptrC_39) (y59_.2.1 _ finC_31).2.1))
              refine ⟨?_, ?_⟩
              · exact (dd_X8_localOf y59_ g (y59_.ref (y59_.ptr ptrC_39) (y59_.2.1 _ finC_31).2.1))
              refine ⟨fun c101_ => ?_, fun c101_ => ?_⟩
              · refine ⟨_, frX9_liveBehind y59_ (sgX9_liveBehind y59_ g), ?_⟩
                intro r25_102 S26_102 q62_ y63_ y64_
                have o103_ : qO S26_102 66 0 = qO S 66 0 := qO_eq (q62_.2.kO (y59_.2.1 _ finC_31).2.1 (by decide) (by decide))
                have t104_ : (qI S26_102 (qO S26_102 66 0) 2).toInt = (qI S (qO S 66 0) 2).toInt := by rw [o103_]; exact congrArg Int32.toInt (q62_.2.kI (j := 2) (y59_.ref (y59_.ptr ptrC_39) (y59_.2.1 _ finC_31).2.1) (by decide) (by decide))
                have t105_ : (qI S26_102 (qO S26_102 66 0) 9).toInt = (qI S (qO S 66 0) 9).toInt := by rw [o103_]; exact congrArg Int32.toInt (q62_.2.kI (j := 9) (y59_.ref (y59_.ptr ptrC_39) (y59_.2.1 _ finC_31).2.1) (by decide) (by decide))
                have t106_ : (qI S26_102 (qO S26_102 66 0) 4).toInt = (qI S (qO S 66 0) 4).toInt := by rw [o103_]; exact congrArg Int32.toInt (q62_.2.kI (j := 4) (y59_.ref (y59_.ptr ptrC_39) (y59_.2.1 _ finC_31).2.1) (by decide) (by decide))
                have t107_ : (qN S26_102 (qO S26_102 (qO S26_102 66 0) 1) : Int) = (qN S (qO S (qO S 66 0) 1) : Int) := by rw [o103_]; exact q62_.2.kL (j := 1) y59_ (y59_.ref (y59_.ptr ptrC_39) (y59_.2.1 _ finC_31).2.1) (g.row (y59_.ref (y59_.ptr ptrC_39) (y59_.2.1 _ finC_31).2.1)).1.2.1 (by decide) (by decide)
                have t108_ : (qN S26_102 (qO S26_102 (qO S26_102 66 0) 8) : Int) = (qN S (qO S (qO S 66 0) 8) : Int) := by rw [o103_]; exact q62_.2.kL (j := 8) y59_ (y59_.ref (y59_.ptr ptrC_39) (y59_.2.1 _ finC_31).2.1) (g.row (y59_.ref (y59_.ptr ptrC_39) (y59_.2.1 _ finC_31).2.1)).1.2.2.2.2.2.2 (by decide) (by decide)
                have t109_ : (qN S26_102 (qO S26_102 (qO S26_102 66 0) 7) : Int) = (qN S (qO S (qO S 66 0) 7) : Int) := by rw [o103_]; exact q62_.2.kL (j := 7) y59_ (y59_.ref (y59_.ptr ptrC_39) (y59_.2.1 _ finC_31).2.1) (g.row (y59_.ref (y59_.ptr ptrC_39) (y59_.2.1 _ finC_31).2.1)).1.2.2.2.2.2.1 (by decide) (by decide)
                have t110_ : (qN S26_102 (qO S26_102 (qO S26_102 66 0) 0) : Int) = (qN S (qO S (qO S 66 0) 0) : Int) := by rw [o103_]; exact q62_.2.kL (j := 0) y59_ (y59_.ref (y59_.ptr ptrC_39) (y59_.2.1 _ finC_31).2.1) (g.row (y59_.ref (y59_.ptr ptrC_39) (y59_.2.1 _ finC_31).2.1)).1.1 (by decide) (by decide)
                have t111_ : (qN S26_102 (qO S26_102 (qO S26_102 66 0) 6) : Int) = (qN S (qO S (qO S 66 0) 6) : Int) := by rw [o103_]; exact q62_.2.kL (j := 6) y59_ (y59_.ref (y59_.ptr ptrC_39) (y59_.2.1 _ finC_31).2.1) (g.row (y59_.ref (y59_.ptr ptrC_39) (y59_.2.1 _ finC_31).2.1)).1.2.2.2.2.1 (by decide) (by decide)
                have t112_ : (qN S26_102 (qO S26_102 (qO S26_102 66 0) 3) : Int) = (qN S (qO S (qO S 66 0) 3) : Int) := by rw [o103_]; exact q62_.2.kL (j := 3) y59_ (y59_.ref (y59_.ptr ptrC_39) (y59_.2.1 _ finC_31).2.1) (g.row (y59_.ref (y59_.ptr ptrC_39) (y59_.2.1 _ finC_31).2.1)).1.2.2.1 (by decide) (by decide)
                have t113_ : (qN S26_102 (qO S26_102 (qO S26_102 66 0) 5) : Int) = (qN S (qO S (qO S 66 0) 5) : Int) := by rw [o103_]; exact q62_.2.kL (j := 5) y59_ (y59_.ref (y59_.ptr ptrC_39) (y59_.2.1 _ finC_31).2.1) (g.row (y59_.ref (y59_.ptr ptrC_39) (y59_.2.1 _ finC_31).2.1)).1.2.2.2.1 (by decide) (by decide)
                have g : ShC B S26_102 := q62_.1.1
                refine ⟨?_, ?_⟩
                · exact (dd_X9_localBits y63_ g)
                refine ⟨fun c114_ => ?_, fun c114_ => ?_⟩
                · exact ⟨g, trivial⟩
                · unfold w_X9_isPassedOn_J109
                  intro y65_
                  exact ⟨g, trivial⟩
              · unfold w_X9_isPassedOn_J109
                intro y66_
                exact ⟨g, trivial⟩
        · unfold w_X9_isPassedOn_J60
          intro y67_
          unfold w_X9_isPassedOn_J61
          intro y68_ y69_
          refine ⟨fun c115_ => ?_, fun c115_ => ?_⟩
          · unfold w_X9_isPassedOn_J109
            intro y70_
            exact ⟨g, trivial⟩
          · refine ⟨?_, ?_⟩
            · exact (dd_X8_localOf y68_ g (y68_.ref (y68_.ptr ptrC_39) (y68_.2.1 _ finC_31).2.1))
            refine ⟨?_, ?_⟩
            · exact (dd_X8_localOf y68_ g (y68_.ref (y68_.ptr ptrC_39) (y68_.2.1 _ finC_31).2.1))
            refine ⟨fun c116_ => ?_, fun c116_ => ?_⟩
            · refine ⟨_, frX9_liveBehind y68_ (sgX9_liveBehind y68_ g), ?_⟩
              intro r25_117 S26_117 q71_ y72_ y73_
              have o118_ : qO S26_117 66 0 = qO S 66 0 := qO_eq (q71_.2.kO (y68_.2.1 _ finC_31).2.1 (by decide) (by decide))
              have t119_ : (qI S26_117 (qO S26_117 66 0) 2).toInt = (qI S (qO S 66 0) 2).toInt := by rw [o118_]; exact congrArg Int32.toInt (q71_.2.kI (j := 2) (y68_.ref (y68_.ptr ptrC_39) (y68_.2.1 _ finC_31).2.1) (by decide) (by decide))
              have t120_ : (qI S26_117 (qO S26_117 66 0) 9).toInt = (qI S (qO S 66 0) 9).toInt := by rw [o118_]; exact congrArg Int32.toInt (q71_.2.kI (j := 9) (y68_.ref (y68_.ptr ptrC_39) (y68_.2.1 _ finC_31).2.1) (by decide) (by decide))
              have t121_ : (qI S26_117 (qO S26_117 66 0) 4).toInt = (qI S (qO S 66 0) 4).toInt := by rw [o118_]; exact congrArg Int32.toInt (q71_.2.kI (j := 4) (y68_.ref (y68_.ptr ptrC_39) (y68_.2.1 _ finC_31).2.1) (by decide) (by decide))
              have t122_ : (qN S26_117 (qO S26_117 (qO S26_117 66 0) 1) : Int) = (qN S (qO S (qO S 66 0) 1) : Int) := by rw [o118_]; exact q71_.2.kL (j := 1) y68_ (y68_.ref (y68_.ptr ptrC_39) (y68_.2.1 _ finC_31).2.1) (g.row (y68_.ref (y68_.ptr ptrC_39) (y68_.2.1 _ finC_31).2.1)).1.2.1 (by decide) (by decide)
              have t123_ : (qN S26_117 (qO S26_117 (qO S26_117 66 0) 8) : Int) = (qN S (qO S (qO S 66 0) 8) : Int) := by rw [o118_]; exact q71_.2.kL (j := 8) y68_ (y68_.ref (y68_.ptr ptrC_39) (y68_.2.1 _ finC_31).2.1) (g.row (y68_.ref (y68_.ptr ptrC_39) (y68_.2.1 _ finC_31).2.1)).1.2.2.2.2.2.2 (by decide) (by decide)
              have t124_ : (qN S26_117 (qO S26_117 (qO S26_117 66 0) 7) : Int) = (qN S (qO S (qO S 66 0) 7) : Int) := by rw [o118_]; exact q71_.2.kL (j := 7) y68_ (y68_.ref (y68_.ptr ptrC_39) (y68_.2.1 _ finC_31).2.1) (g.row (y68_.ref (y68_.ptr ptrC_39) (y68_.2.1 _ finC_31).2.1)).1.2.2.2.2.2.1 (by decide) (by decide)
              have t125_ : (qN S26_117 (qO S26_117 (qO S26_117 66 0) 0) : Int) = (qN S (qO S (qO S 66 0) 0) : Int) := by rw [o118_]; exact q71_.2.kL (j := 0) y68_ (y68_.ref (y68_.ptr ptrC_39) (y68_.2.1 _ finC_31).2.1) (g.row (y68_.ref (y68_.ptr ptrC_39) (y68_.2.1 _ finC_31).2.1)).1.1 (by decide) (by decide)
              have t126_ : (qN S26_117 (qO S26_117 (qO S26_117 66 0) 6) : Int) = (qN S (qO S (qO S 66 0) 6) : Int) := by rw [o118_]; exact q71_.2.kL (j := 6) y68_ (y68_.ref (y68_.ptr ptrC_39) (y68_.2.1 _ finC_31).2.1) (g.row (y68_.ref (y68_.ptr ptrC_39) (y68_.2.1 _ finC_31).2.1)).1.2.2.2.2.1 (by decide) (by decide)
              have t127_ : (qN S26_117 (qO S26_117 (qO S26_117 66 0) 3) : Int) = (qN S (qO S (qO S 66 0) 3) : Int) := by rw [o118_]; exact q71_.2.kL (j := 3) y68_ (y68_.ref (y68_.ptr ptrC_39) (y68_.2.1 _ finC_31).2.1) (g.row (y68_.ref (y68_.ptr ptrC_39) (y68_.2.1 _ finC_31).2.1)).1.2.2.1 (by decide) (by decide)
              have t128_ : (qN S26_117 (qO S26_117 (qO S26_117 66 0) 5) : Int) = (qN S (qO S (qO S 66 0) 5) : Int) := by rw [o118_]; exact q71_.2.kL (j := 5) y68_ (y68_.ref (y68_.ptr ptrC_39) (y68_.2.1 _ finC_31).2.1) (g.row (y68_.ref (y68_.ptr ptrC_39) (y68_.2.1 _ finC_31).2.1)).1.2.2.2.1 (by decide) (by decide)
              have g : ShC B S26_117 := q71_.1.1
              refine ⟨?_, ?_⟩
              · exact (dd_X9_localBits y72_ g)
              refine ⟨fun c129_ => ?_, fun c129_ => ?_⟩
              · exact ⟨g, trivial⟩
              · unfold w_X9_isPassedOn_J109
                intro y74_
                exact ⟨g, trivial⟩
            · unfold w_X9_isPassedOn_J109
              intro y75_
              exact ⟨g, trivial⟩
  · unfold w_X9_isPassedOn_J32
    intro y76_
    refine ⟨fun c130_ => ?_, fun c130_ => ?_⟩
    · refine ⟨fun c131_ => ?_, fun c131_ => ?_⟩
      · unfold w_X9_isPassedOn_J56
        intro y77_
        unfold w_X9_isPassedOn_J61
        intro y78_ y79_
        refine ⟨fun c132_ => ?_, fun c132_ => ?_⟩
        · unfold w_X9_isPassedOn_J109
          intro y80_
          exact ⟨g, trivial⟩
        · refine ⟨?_, ?_⟩
          · exact (dd_X8_localOf y78_ g (y78_.ref (y78_.ptr ptrC_39) (y78_.2.1 _ finC_31).2.1))
          refine ⟨?_, ?_⟩
          · exact (dd_X8_localOf y78_ g (y78_.ref (y78_.ptr ptrC_39) (y78_.2.1 _ finC_31).2.1))
          refine ⟨fun c133_ => ?_, fun c133_ => ?_⟩
          · refine ⟨_, frX9_liveBehind y78_ (sgX9_liveBehind y78_ g), ?_⟩
            intro r25_134 S26_134 q81_ y82_ y83_
            have o135_ : qO S26_134 66 0 = qO S 66 0 := qO_eq (q81_.2.kO (y78_.2.1 _ finC_31).2.1 (by decide) (by decide))
            have t136_ : (qI S26_134 (qO S26_134 66 0) 2).toInt = (qI S (qO S 66 0) 2).toInt := by rw [o135_]; exact congrArg Int32.toInt (q81_.2.kI (j := 2) (y78_.ref (y78_.ptr ptrC_39) (y78_.2.1 _ finC_31).2.1) (by decide) (by decide))
            have t137_ : (qI S26_134 (qO S26_134 66 0) 9).toInt = (qI S (qO S 66 0) 9).toInt := by rw [o135_]; exact congrArg Int32.toInt (q81_.2.kI (j := 9) (y78_.ref (y78_.ptr ptrC_39) (y78_.2.1 _ finC_31).2.1) (by decide) (by decide))
            have t138_ : (qI S26_134 (qO S26_134 66 0) 4).toInt = (qI S (qO S 66 0) 4).toInt := by rw [o135_]; exact congrArg Int32.toInt (q81_.2.kI (j := 4) (y78_.ref (y78_.ptr ptrC_39) (y78_.2.1 _ finC_31).2.1) (by decide) (by decide))
            have t139_ : (qN S26_134 (qO S26_134 (qO S26_134 66 0) 1) : Int) = (qN S (qO S (qO S 66 0) 1) : Int) := by rw [o135_]; exact q81_.2.kL (j := 1) y78_ (y78_.ref (y78_.ptr ptrC_39) (y78_.2.1 _ finC_31).2.1) (g.row (y78_.ref (y78_.ptr ptrC_39) (y78_.2.1 _ finC_31).2.1)).1.2.1 (by decide) (by decide)
            have t140_ : (qN S26_134 (qO S26_134 (qO S26_134 66 0) 8) : Int) = (qN S (qO S (qO S 66 0) 8) : Int) := by rw [o135_]; exact q81_.2.kL (j := 8) y78_ (y78_.ref (y78_.ptr ptrC_39) (y78_.2.1 _ finC_31).2.1) (g.row (y78_.ref (y78_.ptr ptrC_39) (y78_.2.1 _ finC_31).2.1)).1.2.2.2.2.2.2 (by decide) (by decide)
            have t141_ : (qN S26_134 (qO S26_134 (qO S26_134 66 0) 7) : Int) = (qN S (qO S (qO S 66 0) 7) : Int) := by rw [o135_]; exact q81_.2.kL (j := 7) y78_ (y78_.ref (y78_.ptr ptrC_39) (y78_.2.1 _ finC_31).2.1) (g.row (y78_.ref (y78_.ptr ptrC_39) (y78_.2.1 _ finC_31).2.1)).1.2.2.2.2.2.1 (by decide) (by decide)
            have t142_ : (qN S26_134 (qO S26_134 (qO S26_134 66 0) 0) : Int) = (qN S (qO S (qO S 66 0) 0) : Int) := by rw [o135_]; exact q81_.2.kL (j := 0) y78_ (y78_.ref (y78_.ptr ptrC_39) (y78_.2.1 _ finC_31).2.1) (g.row (y78_.ref (y78_.ptr ptrC_39) (y78_.2.1 _ finC_31).2.1)).1.1 (by decide) (by decide)
            have t143_ : (qN S26_134 (qO S26_134 (qO S26_134 66 0) 6) : Int) = (qN S (qO S (qO S 66 0) 6) : Int) := by rw [o135_]; exact q81_.2.kL (j := 6) y78_ (y78_.ref (y78_.ptr ptrC_39) (y78_.2.1 _ finC_31).2.1) (g.row (y78_.ref (y78_.ptr ptrC_39) (y78_.2.1 _ finC_31).2.1)).1.2.2.2.2.1 (by decide) (by decide)
            have t144_ : (qN S26_134 (qO S26_134 (qO S26_134 66 0) 3) : Int) = (qN S (qO S (qO S 66 0) 3) : Int) := by rw [o135_]; exact q81_.2.kL (j := 3) y78_ (y78_.ref (y78_.ptr ptrC_39) (y78_.2.1 _ finC_31).2.1) (g.row (y78_.ref (y78_.ptr ptrC_39) (y78_.2.1 _ finC_31).2.1)).1.2.2.1 (by decide) (by decide)
            have t145_ : (qN S26_134 (qO S26_134 (qO S26_134 66 0) 5) : Int) = (qN S (qO S (qO S 66 0) 5) : Int) := by rw [o135_]; exact q81_.2.kL (j := 5) y78_ (y78_.ref (y78_.ptr ptrC_39) (y78_.2.1 _ finC_31).2.1) (g.row (y78_.ref (y78_.ptr ptrC_39) (y78_.2.1 _ finC_31).2.1)).1.2.2.2.1 (by decide) (by decide)
            have g : ShC B S26_134 := q81_.1.1
            refine ⟨?_, ?_⟩
            · exact (dd_X9_localBits y82_ g)
            refine ⟨fun c146_ => ?_, fun c146_ => ?_⟩
            · exact ⟨g, trivial⟩
            · unfold w_X9_isPassedOn_J109
              intro y84_
              exact ⟨g, trivial⟩
          · unfold w_X9_isPassedOn_J109
            intro y85_
            exact ⟨g, trivial⟩
      · unfold w_X9_isPassedOn_J44
        intro y86_
        refine ⟨fun c147_ => ?_, fun c147_ => ?_⟩
        · refine ⟨fun c148_ => ?_, fun c148_ => ?_⟩
          · unfold w_X9_isPassedOn_J56
            intro y87_
            unfold w_X9_isPassedOn_J61
            intro y88_ y89_
            refine ⟨fun c149_ => ?_, fun c149_ => ?_⟩
            · unfold w_X9_isPassedOn_J109
              intro y90_
              exact ⟨g, trivial⟩
            · refine ⟨?_, ?_⟩
              · exact (dd_X8_localOf y88_ g (y88_.ref (y88_.ptr ptrC_39) (y88_.2.1 _ finC_31).2.1))
              refine ⟨?_, ?_⟩
              · exact (dd_X8_localOf y88_ g (y88_.ref (y88_.ptr ptrC_39) (y88_.2.1 _ finC_31).2.1))
              refine ⟨fun c150_ => ?_, fun c150_ => ?_⟩
              · refine ⟨_, frX9_liveBehind y88_ (sgX9_liveBehind y88_ g), ?_⟩
                intro r25_151 S26_151 q91_ y92_ y93_
                have o152_ : qO S26_151 66 0 = qO S 66 0 := qO_eq (q91_.2.kO (y88_.2.1 _ finC_31).2.1 (by decide) (by decide))
                have t153_ : (qI S26_151 (qO S26_151 66 0) 2).toInt = (qI S (qO S 66 0) 2).toInt := by rw [o152_]; exact congrArg Int32.toInt (q91_.2.kI (j := 2) (y88_.ref (y88_.ptr ptrC_39) (y88_.2.1 _ finC_31).2.1) (by decide) (by decide))
                have t154_ : (qI S26_151 (qO S26_151 66 0) 9).toInt = (qI S (qO S 66 0) 9).toInt := by rw [o152_]; exact congrArg Int32.toInt (q91_.2.kI (j := 9) (y88_.ref (y88_.ptr ptrC_39) (y88_.2.1 _ finC_31).2.1) (by decide) (by decide))
                have t155_ : (qI S26_151 (qO S26_151 66 0) 4).toInt = (qI S (qO S 66 0) 4).toInt := by rw [o152_]; exact congrArg Int32.toInt (q91_.2.kI (j := 4) (y88_.ref (y88_.ptr ptrC_39) (y88_.2.1 _ finC_31).2.1) (by decide) (by decide))
                have t156_ : (qN S26_151 (qO S26_151 (qO S26_151 66 0) 1) : Int) = (qN S (qO S (qO S 66 0) 1) : Int) := by rw [o152_]; exact q91_.2.kL (j := 1) y88_ (y88_.ref (y88_.ptr ptrC_39) (y88_.2.1 _ finC_31).2.1) (g.row (y88_.ref (y88_.ptr ptrC_39) (y88_.2.1 _ finC_31).2.1)).1.2.1 (by decide) (by decide)
                have t157_ : (qN S26_151 (qO S26_151 (qO S26_151 66 0) 8) : Int) = (qN S (qO S (qO S 66 0) 8) : Int) := by rw [o152_]; exact q91_.2.kL (j := 8) y88_ (y88_.ref (y88_.ptr ptrC_39) (y88_.2.1 _ finC_31).2.1) (g.row (y88_.ref (y88_.ptr ptrC_39) (y88_.2.1 _ finC_31).2.1)).1.2.2.2.2.2.2 (by decide) (by decide)
                have t158_ : (qN S26_151 (qO S26_151 (qO S26_151 66 0) 7) : Int) = (qN S (qO S (qO S 66 0) 7) : Int) := by rw [o152_]; exact q91_.2.kL (j := 7) y88_ (y88_.ref (y88_.ptr ptrC_39) (y88_.2.1 _ finC_31).2.1) (g.row (y88_.ref (y88_.ptr ptrC_39) (y88_.2.1 _ finC_31).2.1)).1.2.2.2.2.2.1 (by decide) (by decide)
                have t159_ : (qN S26_151 (qO S26_151 (qO S26_151 66 0) 0) : Int) = (qN S (qO S (qO S 66 0) 0) : Int) := by rw [o152_]; exact q91_.2.kL (j := 0) y88_ (y88_.ref (y88_.ptr ptrC_39) (y88_.2.1 _ finC_31).2.1) (g.row (y88_.ref (y88_.ptr ptrC_39) (y88_.2.1 _ finC_31).2.1)).1.1 (by decide) (by decide)
                have t160_ : (qN S26_151 (qO S26_151 (qO S26_151 66 0) 6) : Int) = (qN S (qO S (qO S 66 0) 6) : Int) := by rw [o152_]; exact q91_.2.kL (j := 6) y88_ (y88_.ref (y88_.ptr ptrC_39) (y88_.2.1 _ finC_31).2.1) (g.row (y88_.ref (y88_.ptr ptrC_39) (y88_.2.1 _ finC_31).2.1)).1.2.2.2.2.1 (by decide) (by decide)
                have t161_ : (qN S26_151 (qO S26_151 (qO S26_151 66 0) 3) : Int) = (qN S (qO S (qO S 66 0) 3) : Int) := by rw [o152_]; exact q91_.2.kL (j := 3) y88_ (y88_.ref (y88_.ptr ptrC_39) (y88_.2.1 _ finC_31).2.1) (g.row (y88_.ref (y88_.ptr ptrC_39) (y88_.2.1 _ finC_31).2.1)).1.2.2.1 (by decide) (by decide)
                have t162_ : (qN S26_151 (qO S26_151 (qO S26_151 66 0) 5) : Int) = (qN S (qO S (qO S 66 0) 5) : Int) := by rw [o152_]; exact q91_.2.kL (j := 5) y88_ (y88_.ref (y88_.ptr ptrC_39) (y88_.2.1 _ finC_31).2.1) (g.row (y88_.ref (y88_.ptr ptrC_39) (y88_.2.1 _ finC_31).2.1)).1.2.2.2.1 (by decide) (by decide)
                have g : ShC B S26_151 := q91_.1.1
                refine ⟨?_, ?_⟩
                · exact (dd_X9_localBits y92_ g)
                refine ⟨fun c163_ => ?_, fun c163_ => ?_⟩
                · exact ⟨g, trivial⟩
                · unfold w_X9_isPassedOn_J109
                  intro y94_
                  exact ⟨g, trivial⟩
              · unfold w_X9_isPassedOn_J109
                intro y95_
                exact ⟨g, trivial⟩
          · unfold w_X9_isPassedOn_J60
            intro y96_
            unfold w_X9_isPassedOn_J61
            intro y97_ y98_
            refine ⟨fun c164_ => ?_, fun c164_ => ?_⟩
            · unfold w_X9_isPassedOn_J109
              intro y99_
              exact ⟨g, trivial⟩
            · refine ⟨?_, ?_⟩
              · exact (dd_X8_localOf y97_ g (y97_.ref (y97_.ptr ptrC_39) (y97_.2.1 _ finC_31).2.1))
              refine ⟨?_, ?_⟩
              · exact (dd_X8_localOf y97_ g (y97_.ref (y97_.ptr ptrC_39) (y97_.2.1 _ finC_31).2.1))
              refine ⟨fun c165_ => ?_, fun c165_ => ?_⟩
              · refine ⟨_, frX9_liveBehind y97_ (sgX9_liveBehind y97_ g), ?_⟩
                intro r25_166 S26_166 q100_ y101_ y102_
                have o167_ : qO S26_166 66 0 = qO S 66 0 := qO_eq (q100_.2.kO (y97_.2.1 _ finC_31).2.1 (by decide) (by decide))
                have t168_ : (qI S26_166 (qO S26_166 66 0) 2).toInt = (qI S (qO S 66 0) 2).toInt := by rw [o167_]; exact congrArg Int32.toInt (q100_.2.kI (j := 2) (y97_.ref (y97_.ptr ptrC_39) (y97_.2.1 _ finC_31).2.1) (by decide) (by decide))
                have t169_ : (qI S26_166 (qO S26_166 66 0) 9).toInt = (qI S (qO S 66 0) 9).toInt := by rw [o167_]; exact congrArg Int32.toInt (q100_.2.kI (j := 9) (y97_.ref (y97_.ptr ptrC_39) (y97_.2.1 _ finC_31).2.1) (by decide) (by decide))
                have t170_ : (qI S26_166 (qO S26_166 66 0) 4).toInt = (qI S (qO S 66 0) 4).toInt := by rw [o167_]; exact congrArg Int32.toInt (q100_.2.kI (j := 4) (y97_.ref (y97_.ptr ptrC_39) (y97_.2.1 _ finC_31).2.1) (by decide) (by decide))
                have t171_ : (qN S26_166 (qO S26_166 (qO S26_166 66 0) 1) : Int) = (qN S (qO S (qO S 66 0) 1) : Int) := by rw [o167_]; exact q100_.2.kL (j := 1) y97_ (y97_.ref (y97_.ptr ptrC_39) (y97_.2.1 _ finC_31).2.1) (g.row (y97_.ref (y97_.ptr ptrC_39) (y97_.2.1 _ finC_31).2.1)).1.2.1 (by decide) (by decide)
                have t172_ : (qN S26_166 (qO S26_166 (qO S26_166 66 0) 8) : Int) = (qN S (qO S (qO S 66 0) 8) : Int) := by rw [o167_]; exact q100_.2.kL (j := 8) y97_ (y97_.ref (y97_.ptr ptrC_39) (y97_.2.1 _ finC_31).2.1) (g.row (y97_.ref (y97_.ptr ptrC_39) (y97_.2.1 _ finC_31).2.1)).1.2.2.2.2.2.2 (by decide) (by decide)
                have t173_ : (qN S26_166 (qO S26_166 (qO S26_166 66 0) 7) : Int) = (qN S (qO S (qO S 66 0) 7) : Int) := by rw [o167_]; exact q100_.2.kL (j := 7) y97_ (y97_.ref (y97_.ptr ptrC_39) (y97_.2.1 _ finC_31).2.1) (g.row (y97_.ref (y97_.ptr ptrC_39) (y97_.2.1 _ finC_31).2.1)).1.2.2.2.2.2.1 (by decide) (by decide)
                have t174_ : (qN S26_166 (qO S26_166 (qO S26_166 66 0) 0) : Int) = (qN S (qO S (qO S 66 0) 0) : Int) := by rw [o167_]; exact q100_.2.kL (j := 0) y97_ (y97_.ref (y97_.ptr ptrC_39) (y97_.2.1 _ finC_31).2.1) (g.row (y97_.ref (y97_.ptr ptrC_39) (y97_.2.1 _ finC_31).2.1)).1.1 (by decide) (by decide)
                have t175_ : (qN S26_166 (qO S26_166 (qO S26_166 66 0) 6) : Int) = (qN S (qO S (qO S 66 0) 6) : Int) := by rw [o167_]; exact q100_.2.kL (j := 6) y97_ (y97_.ref (y97_.ptr ptrC_39) (y97_.2.1 _ finC_31).2.1) (g.row (y97_.ref (y97_.ptr ptrC_39) (y97_.2.1 _ finC_31).2.1)).1.2.2.2.2.1 (by decide) (by decide)
                have t176_ : (qN S26_166 (qO S26_166 (qO S26_166 66 0) 3) : Int) = (qN S (qO S (qO S 66 0) 3) : Int) := by rw [o167_]; exact q100_.2.kL (j := 3) y97_ (y97_.ref (y97_.ptr ptrC_39) (y97_.2.1 _ finC_31).2.1) (g.row (y97_.ref (y97_.ptr ptrC_39) (y97_.2.1 _ finC_31).2.1)).1.2.2.1 (by decide) (by decide)
                have t177_ : (qN S26_166 (qO S26_166 (qO S26_166 66 0) 5) : Int) = (qN S (qO S (qO S 66 0) 5) : Int) := by rw [o167_]; exact q100_.2.kL (j := 5) y97_ (y97_.ref (y97_.ptr ptrC_39) (y97_.2.1 _ finC_31).2.1) (g.row (y97_.ref (y97_.ptr ptrC_39) (y97_.2.1 _ finC_31).2.1)).1.2.2.2.1 (by decide) (by decide)
                have g : ShC B S26_166 := q100_.1.1
                refine ⟨?_, ?_⟩
                · exact (dd_X9_localBits y101_ g)
                refine ⟨fun c178_ => ?_, fun c178_ => ?_⟩
                · exact ⟨g, trivial⟩
                · unfold w_X9_isPassedOn_J109
                  intro y103_
                  exact ⟨g, trivial⟩
              · unfold w_X9_isPassedOn_J109
                intro y104_
                exact ⟨g, trivial⟩
        · unfold w_X9_isPassedOn_J60
          intro y105_
          unfold w_X9_isPassedOn_J61
          intro y106_ y107_
          refine ⟨fun c179_ => ?_, fun c179_ => ?_⟩
          · unfold w_X9_isPassedOn_J109
            intro y108_
            exact ⟨g, trivial⟩
          · refine ⟨?_, ?_⟩
            · exact (dd_X8_localOf y106_ g (y106_.ref (y106_.ptr ptrC_39) (y106_.2.1 _ finC_31).2.1))
            refine ⟨?_, ?_⟩
            · exact (dd_X8_localOf y106_ g (y106_.ref (y106_.ptr ptrC_39) (y106_.2.1 _ finC_31).2.1))
            refine ⟨fun c180_ => ?_, fun c180_ => ?_⟩
            · refine ⟨_, frX9_liveBehind y106_ (sgX9_liveBehind y106_ g), ?_⟩
              intro r25_181 S26_181 q109_ y110_ y111_
              have o182_ : qO S26_181 66 0 = qO S 66 0 := qO_eq (q109_.2.kO (y106_.2.1 _ finC_31).2.1 (by decide) (by decide))
              have t183_ : (qI S26_181 (qO S26_181 66 0) 2).toInt = (qI S (qO S 66 0) 2).toInt := by rw [o182_]; exact congrArg Int32.toInt (q109_.2.kI (j := 2) (y106_.ref (y106_.ptr ptrC_39) (y106_.2.1 _ finC_31).2.1) (by decide) (by decide))
              have t184_ : (qI S26_181 (qO S26_181 66 0) 9).toInt = (qI S (qO S 66 0) 9).toInt := by rw [o182_]; exact congrArg Int32.toInt (q109_.2.kI (j := 9) (y106_.ref (y106_.ptr ptrC_39) (y106_.2.1 _ finC_31).2.1) (by decide) (by decide))
              have t185_ : (qI S26_181 (qO S26_181 66 0) 4).toInt = (qI S (qO S 66 0) 4).toInt := by rw [o182_]; exact congrArg Int32.toInt (q109_.2.kI (j := 4) (y106_.ref (y106_.ptr ptrC_39) (y106_.2.1 _ finC_31).2.1) (by decide) (by decide))
              have t186_ : (qN S26_181 (qO S26_181 (qO S26_181 66 0) 1) : Int) = (qN S (qO S (qO S 66 0) 1) : Int) := by rw [o182_]; exact q109_.2.kL (j := 1) y106_ (y106_.ref (y106_.ptr ptrC_39) (y106_.2.1 _ finC_31).2.1) (g.row (y106_.ref (y106_.ptr ptrC_39) (y106_.2.1 _ finC_31).2.1)).1.2.1 (by decide) (by decide)
              have t187_ : (qN S26_181 (qO S26_181 (qO S26_181 66 0) 8) : Int) = (qN S (qO S (qO S 66 0) 8) : Int) := by rw [o182_]; exact q109_.2.kL (j := 8) y106_ (y106_.ref (y106_.ptr ptrC_39) (y106_.2.1 _ finC_31).2.1) (g.row (y106_.ref (y106_.ptr ptrC_39) (y106_.2.1 _ finC_31).2.1)).1.2.2.2.2.2.2 (by decide) (by decide)
              have t188_ : (qN S26_181 (qO S26_181 (qO S26_181 66 0) 7) : Int) = (qN S (qO S (qO S 66 0) 7) : Int) := by rw [o182_]; exact q109_.2.kL (j := 7) y106_ (y106_.ref (y106_.ptr ptrC_39) (y106_.2.1 _ finC_31).2.1) (g.row (y106_.ref (y106_.ptr ptrC_39) (y106_.2.1 _ finC_31).2.1)).1.2.2.2.2.2.1 (by decide) (by decide)
              have t189_ : (qN S26_181 (qO S26_181 (qO S26_181 66 0) 0) : Int) = (qN S (qO S (qO S 66 0) 0) : Int) := by rw [o182_]; exact q109_.2.kL (j := 0) y106_ (y106_.ref (y106_.ptr ptrC_39) (y106_.2.1 _ finC_31).2.1) (g.row (y106_.ref (y106_.ptr ptrC_39) (y106_.2.1 _ finC_31).2.1)).1.1 (by decide) (by decide)
              have t190_ : (qN S26_181 (qO S26_181 (qO S26_181 66 0) 6) : Int) = (qN S (qO S (qO S 66 0) 6) : Int) := by rw [o182_]; exact q109_.2.kL (j := 6) y106_ (y106_.ref (y106_.ptr ptrC_39) (y106_.2.1 _ finC_31).2.1) (g.row (y106_.ref (y106_.ptr ptrC_39) (y106_.2.1 _ finC_31).2.1)).1.2.2.2.2.1 (by decide) (by decide)
              have t191_ : (qN S26_181 (qO S26_181 (qO S26_181 66 0) 3) : Int) = (qN S (qO S (qO S 66 0) 3) : Int) := by rw [o182_]; exact q109_.2.kL (j := 3) y106_ (y106_.ref (y106_.ptr ptrC_39) (y106_.2.1 _ finC_31).2.1) (g.row (y106_.ref (y106_.ptr ptrC_39) (y106_.2.1 _ finC_31).2.1)).1.2.2.1 (by decide) (by decide)
              have t192_ : (qN S26_181 (qO S26_181 (qO S26_181 66 0) 5) : Int) = (qN S (qO S (qO S 66 0) 5) : Int) := by rw [o182_]; exact q109_.2.kL (j := 5) y106_ (y106_.ref (y106_.ptr ptrC_39) (y106_.2.1 _ finC_31).2.1) (g.row (y106_.ref (y106_.ptr ptrC_39) (y106_.2.1 _ finC_31).2.1)).1.2.2.2.1 (by decide) (by decide)
              have g : ShC B S26_181 := q109_.1.1
              refine ⟨?_, ?_⟩
              · exact (dd_X9_localBits y110_ g)
              refine ⟨fun c193_ => ?_, fun c193_ => ?_⟩
              · exact ⟨g, trivial⟩
              · unfold w_X9_isPassedOn_J109
                intro y112_
                exact ⟨g, trivial⟩
            · unfold w_X9_isPassedOn_J109
              intro y113_
              exact ⟨g, trivial⟩
    · unfold w_X9_isPassedOn_J44
      intro y114_
      refine ⟨fun c194_ => ?_, fun c194_ => ?_⟩
      · refine ⟨fun c195_ => ?_, fun c195_ => ?_⟩
        · unfold w_X9_isPassedOn_J56
          intro y115_
          unfold w_X9_isPassedOn_J61
          intro y116_ y117_
          refine ⟨fun c196_ => ?_, fun c196_ => ?_⟩
          · unfold w_X9_isPassedOn_J109
            intro y118_
            exact ⟨g, trivial⟩
          · refine ⟨?_, ?_⟩
            · exact (dd_X8_localOf y116_ g (y116_.ref (y116_.ptr ptrC_39) (y116_.2.1 _ finC_31).2.1))
            refine ⟨?_, ?_⟩
            · exact (dd_X8_localOf y116_ g (y116_.ref (y116_.ptr ptrC_39) (y116_.2.1 _ finC_31).2.1))
            refine ⟨fun c197_ => ?_, fun c197_ => ?_⟩
            · refine ⟨_, frX9_liveBehind y116_ (sgX9_liveBehind y116_ g), ?_⟩
              intro r25_198 S26_198 q119_ y120_ y121_
              have o199_ : qO S26_198 66 0 = qO S 66 0 := qO_eq (q119_.2.kO (y116_.2.1 _ finC_31).2.1 (by decide) (by decide))
              have t200_ : (qI S26_198 (qO S26_198 66 0) 2).toInt = (qI S (qO S 66 0) 2).toInt := by rw [o199_]; exact congrArg Int32.toInt (q119_.2.kI (j := 2) (y116_.ref (y116_.ptr ptrC_39) (y116_.2.1 _ finC_31).2.1) (by decide) (by decide))
              have t201_ : (qI S26_198 (qO S26_198 66 0) 9).toInt = (qI S (qO S 66 0) 9).toInt := by rw [o199_]; exact congrArg Int32.toInt (q119_.2.kI (j := 9) (y116_.ref (y116_.ptr ptrC_39) (y116_.2.1 _ finC_31).2.1) (by decide) (by decide))
              have t202_ : (qI S26_198 (qO S26_198 66 0) 4).toInt = (qI S (qO S 66 0) 4).toInt := by rw [o199_]; exact congrArg Int32.toInt (q119_.2.kI (j := 4) (y116_.ref (y116_.ptr ptrC_39) (y116_.2.1 _ finC_31).2.1) (by decide) (by decide))
              have t203_ : (qN S26_198 (qO S26_198 (qO S26_198 66 0) 1) : Int) = (qN S (qO S (qO S 66 0) 1) : Int) := by rw [o199_]; exact q119_.2.kL (j := 1) y116_ (y116_.ref (y116_.ptr ptrC_39) (y116_.2.1 _ finC_31).2.1) (g.row (y116_.ref (y116_.ptr ptrC_39) (y116_.2.1 _ finC_31).2.1)).1.2.1 (by decide) (by decide)
              have t204_ : (qN S26_198 (qO S26_198 (qO S26_198 66 0) 8) : Int) = (qN S (qO S (qO S 66 0) 8) : Int) := by rw [o199_]; exact q119_.2.kL (j := 8) y116_ (y116_.ref (y116_.ptr ptrC_39) (y116_.2.1 _ finC_31).2.1) (g.row (y116_.ref (y116_.ptr ptrC_39) (y116_.2.1 _ finC_31).2.1)).1.2.2.2.2.2.2 (by decide) (by decide)
              have t205_ : (qN S26_198 (qO S26_198 (qO S26_198 66 0) 7) : Int) = (qN S (qO S (qO S 66 0) 7) : Int) := by rw [o199_]; exact q119_.2.kL (j := 7) y116_ (y116_.ref (y116_.ptr ptrC_39) (y116_.2.1 _ finC_31).2.1) (g.row (y116_.ref (y116_.ptr ptrC_39) (y116_.2.1 _ finC_31).2.1)).1.2.2.2.2.2.1 (by decide) (by decide)
              have t206_ : (qN S26_198 (qO S26_198 (qO S26_198 66 0) 0) : Int) = (qN S (qO S (qO S 66 0) 0) : Int) := by rw [o199_]; exact q119_.2.kL (j := 0) y116_ (y116_.ref (y116_.ptr ptrC_39) (y116_.2.1 _ finC_31).2.1) (g.row (y116_.ref (y116_.ptr ptrC_39) (y116_.2.1 _ finC_31).2.1)).1.1 (by decide) (by decide)
              have t207_ : (qN S26_198 (qO S26_198 (qO S26_198 66 0) 6) : Int) = (qN S (qO S (qO S 66 0) 6) : Int) := by rw [o199_]; exact q119_.2.kL (j := 6) y116_ (y116_.ref (y116_.ptr ptrC_39) (y116_.2.1 _ finC_31).2.1) (g.row (y116_.ref (y116_.ptr ptrC_39) (y116_.2.1 _ finC_31).2.1)).1.2.2.2.2.1 (by decide) (by decide)
              have t208_ : (qN S26_198 (qO S26_198 (qO S26_198 66 0) 3) : Int) = (qN S (qO S (qO S 66 0) 3) : Int) := by rw [o199_]; exact q119_.2.kL (j := 3) y116_ (y116_.ref (y116_.ptr ptrC_39) (y116_.2.1 _ finC_31).2.1) (g.row (y116_.ref (y116_.ptr ptrC_39) (y116_.2.1 _ finC_31).2.1)).1.2.2.1 (by decide) (by decide)
              have t209_ : (qN S26_198 (qO S26_198 (qO S26_198 66 0) 5) : Int) = (qN S (qO S (qO S 66 0) 5) : Int) := by rw [o199_]; exact q119_.2.kL (j := 5) y116_ (y116_.ref (y116_.ptr ptrC_39) (y116_.2.1 _ finC_31).2.1) (g.row (y116_.ref (y116_.ptr ptrC_39) (y116_.2.1 _ finC_31).2.1)).1.2.2.2.1 (by decide) (by decide)
              have g : ShC B S26_198 := q119_.1.1
              refine ⟨?_, ?_⟩
              · exact (dd_X9_localBits y120_ g)
              refine ⟨fun c210_ => ?_, fun c210_ => ?_⟩
              · exact ⟨g, trivial⟩
              · unfold w_X9_isPassedOn_J109
                intro y122_
                exact ⟨g, trivial⟩
            · unfold w_X9_isPassedOn_J109
              intro y123_
              exact ⟨g, trivial⟩
        · unfold w_X9_isPassedOn_J60
          intro y124_
          unfold w_X9_isPassedOn_J61
          intro y125_ y126_
          refine ⟨fun c211_ => ?_, fun c211_ => ?_⟩
          · unfold w_X9_isPassedOn_J109
            intro y127_
            exact ⟨g, trivial⟩
          · refine ⟨?_, ?_⟩
            · exact (dd_X8_localOf y125_ g (y125_.ref (y125_.ptr ptrC_39) (y125_.2.1 _ finC_31).2.1))
            refine ⟨?_, ?_⟩
            · exact (dd_X8_localOf y125_ g (y125_.ref (y125_.ptr ptrC_39) (y125_.2.1 _ finC_31).2.1))
            refine ⟨fun c212_ => ?_, fun c212_ => ?_⟩
            · refine ⟨_, frX9_liveBehind y125_ (sgX9_liveBehind y125_ g), ?_⟩
              intro r25_213 S26_213 q128_ y129_ y130_
              have o214_ : qO S26_213 66 0 = qO S 66 0 := qO_eq (q128_.2.kO (y125_.2.1 _ finC_31).2.1 (by decide) (by decide))
              have t215_ : (qI S26_213 (qO S26_213 66 0) 2).toInt = (qI S (qO S 66 0) 2).toInt := by rw [o214_]; exact congrArg Int32.toInt (q128_.2.kI (j := 2) (y125_.ref (y125_.ptr ptrC_39) (y125_.2.1 _ finC_31).2.1) (by decide) (by decide))
              have t216_ : (qI S26_213 (qO S26_213 66 0) 9).toInt = (qI S (qO S 66 0) 9).toInt := by rw [o214_]; exact congrArg Int32.toInt (q128_.2.kI (j := 9) (y125_.ref (y125_.ptr ptrC_39) (y125_.2.1 _ finC_31).2.1) (by decide) (by decide))
              have t217_ : (qI S26_213 (qO S26_213 66 0) 4).toInt = (qI S (qO S 66 0) 4).toInt := by rw [o214_]; exact congrArg Int32.toInt (q128_.2.kI (j := 4) (y125_.ref (y125_.ptr ptrC_39) (y125_.2.1 _ finC_31).2.1) (by decide) (by decide))
              have t218_ : (qN S26_213 (qO S26_213 (qO S26_213 66 0) 1) : Int) = (qN S (qO S (qO S 66 0) 1) : Int) := by rw [o214_]; exact q128_.2.kL (j := 1) y125_ (y125_.ref (y125_.ptr ptrC_39) (y125_.2.1 _ finC_31).2.1) (g.row (y125_.ref (y125_.ptr ptrC_39) (y125_.2.1 _ finC_31).2.1)).1.2.1 (by decide) (by decide)
              have t219_ : (qN S26_213 (qO S26_213 (qO S26_213 66 0) 8) : Int) = (qN S (qO S (qO S 66 0) 8) : Int) := by rw [o214_]; exact q128_.2.kL (j := 8) y125_ (y125_.ref (y125_.ptr ptrC_39) (y125_.2.1 _ finC_31).2.1) (g.row (y125_.ref (y125_.ptr ptrC_39) (y125_.2.1 _ finC_31).2.1)).1.2.2.2.2.2.2 (by decide) (by decide)
              have t220_ : (qN S26_213 (qO S26_213 (qO S26_213 66 0) 7) : Int) = (qN S (qO S (qO S 66 0) 7) : Int) := by rw [o214_]; exact q128_.2.kL (j := 7) y125_ (y125_.ref (y125_.ptr ptrC_39) (y125_.2.1 _ finC_31).2.1) (g.row (y125_.ref (y125_.ptr ptrC_39) (y125_.2.1 _ finC_31).2.1)).1.2.2.2.2.2.1 (by decide) (by decide)
              have t221_ : (qN S26_213 (qO S26_213 (qO S26_213 66 0) 0) : Int) = (qN S (qO S (qO S 66 0) 0) : Int) := by rw [o214_]; exact q128_.2.kL (j := 0) y125_ (y125_.ref (y125_.ptr ptrC_39) (y125_.2.1 _ finC_31).2.1) (g.row (y125_.ref (y125_.ptr ptrC_39) (y125_.2.1 _ finC_31).2.1)).1.1 (by decide) (by decide)
              have t222_ : (qN S26_213 (qO S26_213 (qO S26_213 66 0) 6) : Int) = (qN S (qO S (qO S 66 0) 6) : Int) := by rw [o214_]; exact q128_.2.kL (j := 6) y125_ (y125_.ref (y125_.ptr ptrC_39) (y125_.2.1 _ finC_31).2.1) (g.row (y125_.ref (y125_.ptr ptrC_39) (y125_.2.1 _ finC_31).2.1)).1.2.2.2.2.1 (by decide) (by decide)
              have t223_ : (qN S26_213 (qO S26_213 (qO S26_213 66 0) 3) : Int) = (qN S (qO S (qO S 66 0) 3) : Int) := by rw [o214_]; exact q128_.2.kL (j := 3) y125_ (y125_.ref (y125_.ptr ptrC_39) (y125_.2.1 _ finC_31).2.1) (g.row (y125_.ref (y125_.ptr ptrC_39) (y125_.2.1 _ finC_31).2.1)).1.2.2.1 (by decide) (by decide)
              have t224_ : (qN S26_213 (qO S26_213 (qO S26_213 66 0) 5) : Int) = (qN S (qO S (qO S 66 0) 5) : Int) := by rw [o214_]; exact q128_.2.kL (j := 5) y125_ (y125_.ref (y125_.ptr ptrC_39) (y125_.2.1 _ finC_31).2.1) (g.row (y125_.ref (y125_.ptr ptrC_39) (y125_.2.1 _ finC_31).2.1)).1.2.2.2.1 (by decide) (by decide)
              have g : ShC B S26_213 := q128_.1.1
              refine ⟨?_, ?_⟩
              · exact (dd_X9_localBits y129_ g)
              refine ⟨fun c225_ => ?_, fun c225_ => ?_⟩
              · exact ⟨g, trivial⟩
              · unfold w_X9_isPassedOn_J109
                intro y131_
                exact ⟨g, trivial⟩
            · unfold w_X9_isPassedOn_J109
              intro y132_
              exact ⟨g, trivial⟩
      · unfold w_X9_isPassedOn_J60
        intro y133_
        unfold w_X9_isPassedOn_J61
        intro y134_ y135_
        refine ⟨fun c226_ => ?_, fun c226_ => ?_⟩
        · unfold w_X9_isPassedOn_J109
          intro y136_
          exact ⟨g, trivial⟩
        · refine ⟨?_, ?_⟩
          · exact (dd_X8_localOf y134_ g (y134_.ref (y134_.ptr ptrC_39) (y134_.2.1 _ finC_31).2.1))
          refine ⟨?_, ?_⟩
          · exact (dd_X8_localOf y134_ g (y134_.ref (y134_.ptr ptrC_39) (y134_.2.1 _ finC_31).2.1))
          refine ⟨fun c227_ => ?_, fun c227_ => ?_⟩
          · refine ⟨_, frX9_liveBehind y134_ (sgX9_liveBehind y134_ g), ?_⟩
            intro r25_228 S26_228 q137_ y138_ y139_
            have o229_ : qO S26_228 66 0 = qO S 66 0 := qO_eq (q137_.2.kO (y134_.2.1 _ finC_31).2.1 (by decide) (by decide))
            have t230_ : (qI S26_228 (qO S26_228 66 0) 2).toInt = (qI S (qO S 66 0) 2).toInt := by rw [o229_]; exact congrArg Int32.toInt (q137_.2.kI (j := 2) (y134_.ref (y134_.ptr ptrC_39) (y134_.2.1 _ finC_31).2.1) (by decide) (by decide))
            have t231_ : (qI S26_228 (qO S26_228 66 0) 9).toInt = (qI S (qO S 66 0) 9).toInt := by rw [o229_]; exact congrArg Int32.toInt (q137_.2.kI (j := 9) (y134_.ref (y134_.ptr ptrC_39) (y134_.2.1 _ finC_31).2.1) (by decide) (by decide))
            have t232_ : (qI S26_228 (qO S26_228 66 0) 4).toInt = (qI S (qO S 66 0) 4).toInt := by rw [o229_]; exact congrArg Int32.toInt (q137_.2.kI (j := 4) (y134_.ref (y134_.ptr ptrC_39) (y134_.2.1 _ finC_31).2.1) (by decide) (by decide))
            have t233_ : (qN S26_228 (qO S26_228 (qO S26_228 66 0) 1) : Int) = (qN S (qO S (qO S 66 0) 1) : Int) := by rw [o229_]; exact q137_.2.kL (j := 1) y134_ (y134_.ref (y134_.ptr ptrC_39) (y134_.2.1 _ finC_31).2.1) (g.row (y134_.ref (y134_.ptr ptrC_39) (y134_.2.1 _ finC_31).2.1)).1.2.1 (by decide) (by decide)
            have t234_ : (qN S26_228 (qO S26_228 (qO S26_228 66 0) 8) : Int) = (qN S (qO S (qO S 66 0) 8) : Int) := by rw [o229_]; exact q137_.2.kL (j := 8) y134_ (y134_.ref (y134_.ptr ptrC_39) (y134_.2.1 _ finC_31).2.1) (g.row (y134_.ref (y134_.ptr ptrC_39) (y134_.2.1 _ finC_31).2.1)).1.2.2.2.2.2.2 (by decide) (by decide)
            have t235_ : (qN S26_228 (qO S26_228 (qO S26_228 66 0) 7) : Int) = (qN S (qO S (qO S 66 0) 7) : Int) := by rw [o229_]; exact q137_.2.kL (j := 7) y134_ (y134_.ref (y134_.ptr ptrC_39) (y134_.2.1 _ finC_31).2.1) (g.row (y134_.ref (y134_.ptr ptrC_39) (y134_.2.1 _ finC_31).2.1)).1.2.2.2.2.2.1 (by decide) (by decide)
            have t236_ : (qN S26_228 (qO S26_228 (qO S26_228 66 0) 0) : Int) = (qN S (qO S (qO S 66 0) 0) : Int) := by rw [o229_]; exact q137_.2.kL (j := 0) y134_ (y134_.ref (y134_.ptr ptrC_39) (y134_.2.1 _ finC_31).2.1) (g.row (y134_.ref (y134_.ptr ptrC_39) (y134_.2.1 _ finC_31).2.1)).1.1 (by decide) (by decide)
            have t237_ : (qN S26_228 (qO S26_228 (qO S26_228 66 0) 6) : Int) = (qN S (qO S (qO S 66 0) 6) : Int) := by rw [o229_]; exact q137_.2.kL (j := 6) y134_ (y134_.ref (y134_.ptr ptrC_39) (y134_.2.1 _ finC_31).2.1) (g.row (y134_.ref (y134_.ptr ptrC_39) (y134_.2.1 _ finC_31).2.1)).1.2.2.2.2.1 (by decide) (by decide)
            have t238_ : (qN S26_228 (qO S26_228 (qO S26_228 66 0) 3) : Int) = (qN S (qO S (qO S 66 0) 3) : Int) := by rw [o229_]; exact q137_.2.kL (j := 3) y134_ (y134_.ref (y134_.ptr ptrC_39) (y134_.2.1 _ finC_31).2.1) (g.row (y134_.ref (y134_.ptr ptrC_39) (y134_.2.1 _ finC_31).2.1)).1.2.2.1 (by decide) (by decide)
            have t239_ : (qN S26_228 (qO S26_228 (qO S26_228 66 0) 5) : Int) = (qN S (qO S (qO S 66 0) 5) : Int) := by rw [o229_]; exact q137_.2.kL (j := 5) y134_ (y134_.ref (y134_.ptr ptrC_39) (y134_.2.1 _ finC_31).2.1) (g.row (y134_.ref (y134_.ptr ptrC_39) (y134_.2.1 _ finC_31).2.1)).1.2.2.2.1 (by decide) (by decide)
            have g : ShC B S26_228 := q137_.1.1
            refine ⟨?_, ?_⟩
            · exact (dd_X9_localBits y138_ g)
            refine ⟨fun c240_ => ?_, fun c240_ => ?_⟩
            · exact ⟨g, trivial⟩
            · unfold w_X9_isPassedOn_J109
              intro y140_
              exact ⟨g, trivial⟩
          · unfold w_X9_isPassedOn_J109
            intro y141_
            exact ⟨g, trivial⟩
set_option maxRecDepth 100000 in
theorem sg_X9_liveBefore_L53 {B : Nat × Nat} : ∀ (n : Nat) {U53 : MS} {v53_1 : Int32} {v53_3 : Int32} {v53_4 : Int32}, ShC B U53 → 0 ≤ v53_4.toInt → 2147483648 - v53_4.toInt < n → w_X9_liveBefore_L53 (fun _ u => ShC B u ∧ (True)) n U53 v53_1 v53_3 v53_4 := by
  intro n
  induction n with
  | zero => intro U53 v53_1 v53_3 v53_4 g j0_ hm_; exfalso; have := rgI v53_1; have := rgI v53_3; have := rgI v53_4; omega
  | succ n ih53 =>
    intro U53 v53_1 v53_3 v53_4 g j0_ hm_
    unfold w_X9_liveBefore_L53
    intro y1_
    refine ⟨fun c0_ => ?_, fun c0_ => ?_⟩
    · exact ⟨g, trivial⟩
    · refine ⟨?_, ?_⟩
      · exact (dd_X8_catchHas y1_ g (y1_.ref (y1_.ptr ptrC_39) (y1_.2.1 _ finC_31).2.1))
      refine ⟨fun c1_ => ?_, fun c1_ => ?_⟩
      · unfold w_X9_liveBefore_J95
        intro y2_
        intro a19_2 ea19_2 
        have ga19_2 := congrArg Int32.toInt ea19_2
        refine ih53 g ?_ ?_
        · have s3_ := (g.row (y2_.ref (y2_.ptr ptrC_39) (y2_.2.1 _ finC_31).2.1)).2
          have s4_ := g.smk
          unfold SmK at s4_
          have n1_ := rgI a19_2
          have n2_ := rgI v53_4
          have n3_ := rgI (qI U53 (qO U53 66 0) 9)
          have n4_ := rgI (fX8_catchHas U53 (qO U53 66 0) v53_4 v53_1)
          have n6_ := lo_1k
          have n6_ := t_addD (a := v53_4) (b := Int32.ofInt 1)
          have n7_ := rgI (v53_4 + Int32.ofInt 1)
          omega
        · have s5_ := (g.row (y2_.ref (y2_.ptr ptrC_39) (y2_.2.1 _ finC_31).2.1)).2
          have s6_ := g.smk
          unfold SmK at s6_
          have n1_ := rgI a19_2
          have n2_ := rgI v53_4
          have n3_ := rgI (qI U53 (qO U53 66 0) 9)
          have n4_ := rgI (fX8_catchHas U53 (qO U53 66 0) v53_4 v53_1)
          have n6_ := lo_1k
          have n6_ := t_addD (a := v53_4) (b := Int32.ofInt 1)
          have n7_ := rgI (v53_4 + Int32.ofInt 1)
          omega
      · refine ⟨?_, ?_⟩
        · exact (g.row (y1_.ref (y1_.ptr ptrC_39) (y1_.2.1 _ finC_31).2.1)).1.2.2.2.2.2.1
        refine ⟨?_, ?_⟩
        · have s7_ := (g.row (y1_.ref (y1_.ptr ptrC_39) (y1_.2.1 _ finC_31).2.1)).2
          have s8_ := g.smk
          unfold SmK at s8_
          have n1_ := rgI v53_4
          have n2_ := rgI (qI U53 (qO U53 66 0) 9)
          have n3_ := rgI (fX8_catchHas U53 (qO U53 66 0) v53_4 v53_1)
          omega
        refine ⟨?_, ?_⟩
        · exact (dd_X9_liveAt y1_ g)
        intro a30_9 ea30_9 
        have ga30_9 := congrArg Int32.toInt ea30_9
        unfold w_X9_liveBefore_J95
        intro y3_
        intro a19_10 ea19_10 
        have ga19_10 := congrArg Int32.toInt ea19_10
        refine ih53 g ?_ ?_
        · have s11_ := (g.row (y3_.ref (y3_.ptr ptrC_39) (y3_.2.1 _ finC_31).2.1)).2
          have s12_ := g.smk
          unfold SmK at s12_
          have n1_ := rgI a19_10
          have n2_ := rgI v53_4
          have n3_ := rgI (qI U53 (qO U53 66 0) 9)
          have n4_ := rgI (fX8_catchHas U53 (qO U53 66 0) v53_4 v53_1)
          have n5_ := rgI a30_9
          have n6_ := rgI (v53_3 ||| (fX9_liveAt U53 (qI U53 (qO U53 (qO U53 66 0) 7) v53_4.toInt.toNat)))
          have n8_ := lo_1k
          have n8_ := t_addD (a := v53_4) (b := Int32.ofInt 1)
          have n9_ := rgI (v53_4 + Int32.ofInt 1)
          omega
        · have s13_ := (g.row (y3_.ref (y3_.ptr ptrC_39) (y3_.2.1 _ finC_31).2.1)).2
          have s14_ := g.smk
          unfold SmK at s14_
          have n1_ := rgI a19_10
          have n2_ := rgI v53_4
          have n3_ := rgI (qI U53 (qO U53 66 0) 9)
          have n4_ := rgI (fX8_catchHas U53 (qO U53 66 0) v53_4 v53_1)
          have n5_ := rgI a30_9
          have n6_ := rgI (v53_3 ||| (fX9_liveAt U53 (qI U53 (qO U53 (qO U53 66 0) 7) v53_4.toInt.toNat)))
          have n8_ := lo_1k
          have n8_ := t_addD (a := v53_4) (b := Int32.ofInt 1)
          have n9_ := rgI (v53_4 + Int32.ofInt 1)
          omega
set_option maxRecDepth 100000 in
theorem sgX9_liveBefore {B : Nat × Nat} {S : MS} {x1 : Int32} (hw : wfC S) (g : ShC B S) : wX9_liveBefore S x1 (fun _ u => ShC B u ∧ (True)) := by
  unfold wX9_liveBefore
  refine ⟨?_, ?_⟩
  · exact (dd_X8_opAt hw g (hw.ref (hw.ptr ptrC_39) (hw.2.1 _ finC_31).2.1))
  intro a5_15 ea5_15 
  have ga5_15 := congrArg Int32.toInt ea5_15
  refine ⟨_, frX9_liveBehind hw (sgX9_liveBehind hw g), ?_⟩
  intro r7_16 S8_16 q4_ y5_ y6_
  have o17_ : qO S8_16 66 0 = qO S 66 0 := qO_eq (q4_.2.kO (hw.2.1 _ finC_31).2.1 (by decide) (by decide))
  have t18_ : (qI S8_16 (qO S8_16 66 0) 2).toInt = (qI S (qO S 66 0) 2).toInt := by rw [o17_]; exact congrArg Int32.toInt (q4_.2.kI (j := 2) (hw.ref (hw.ptr ptrC_39) (hw.2.1 _ finC_31).2.1) (by decide) (by decide))
  have t19_ : (qI S8_16 (qO S8_16 66 0) 9).toInt = (qI S (qO S 66 0) 9).toInt := by rw [o17_]; exact congrArg Int32.toInt (q4_.2.kI (j := 9) (hw.ref (hw.ptr ptrC_39) (hw.2.1 _ finC_31).2.1) (by decide) (by decide))
  have t20_ : (qI S8_16 (qO S8_16 66 0) 4).toInt = (qI S (qO S 66 0) 4).toInt := by rw [o17_]; exact congrArg Int32.toInt (q4_.2.kI (j := 4) (hw.ref (hw.ptr ptrC_39) (hw.2.1 _ finC_31).2.1) (by decide) (by decide))
  have t21_ : (qN S8_16 (qO S8_16 (qO S8_16 66 0) 1) : Int) = (qN S (qO S (qO S 66 0) 1) : Int) := by rw [o17_]; exact q4_.2.kL (j := 1) hw (hw.ref (hw.ptr ptrC_39) (hw.2.1 _ finC_31).2.1) (g.row (hw.ref (hw.ptr ptrC_39) (hw.2.1 _ finC_31).2.1)).1.2.1 (by decide) (by decide)
  have t22_ : (qN S8_16 (qO S8_16 (qO S8_16 66 0) 8) : Int) = (qN S (qO S (qO S 66 0) 8) : Int) := by rw [o17_]; exact q4_.2.kL (j := 8) hw (hw.ref (hw.ptr ptrC_39) (hw.2.1 _ finC_31).2.1) (g.row (hw.ref (hw.ptr ptrC_39) (hw.2.1 _ finC_31).2.1)).1.2.2.2.2.2.2 (by decide) (by decide)
  have t23_ : (qN S8_16 (qO S8_16 (qO S8_16 66 0) 7) : Int) = (qN S (qO S (qO S 66 0) 7) : Int) := by rw [o17_]; exact q4_.2.kL (j := 7) hw (hw.ref (hw.ptr ptrC_39) (hw.2.1 _ finC_31).2.1) (g.row (hw.ref (hw.ptr ptrC_39) (hw.2.1 _ finC_31).2.1)).1.2.2.2.2.2.1 (by decide) (by decide)
  have t24_ : (qN S8_16 (qO S8_16 (qO S8_16 66 0) 0) : Int) = (qN S (qO S (qO S 66 0) 0) : Int) := by rw [o17_]; exact q4_.2.kL (j := 0) hw (hw.ref (hw.ptr ptrC_39) (hw.2.1 _ finC_31).2.1) (g.row (hw.ref (hw.ptr ptrC_39) (hw.2.1 _ finC_31).2.1)).1.1 (by decide) (by decide)
  have t25_ : (qN S8_16 (qO S8_16 (qO S8_16 66 0) 6) : Int) = (qN S (qO S (qO S 66 0) 6) : Int) := by rw [o17_]; exact q4_.2.kL (j := 6) hw (hw.ref (hw.ptr ptrC_39) (hw.2.1 _ finC_31).2.1) (g.row (hw.ref (hw.ptr ptrC_39) (hw.2.1 _ finC_31).2.1)).1.2.2.2.2.1 (by decide) (by decide)
  have t26_ : (qN S8_16 (qO S8_16 (qO S8_16 66 0) 3) : Int) = (qN S (qO S (qO S 66 0) 3) : Int) := by rw [o17_]; exact q4_.2.kL (j := 3) hw (hw.ref (hw.ptr ptrC_39) (hw.2.1 _ finC_31).2.1) (g.row (hw.ref (hw.ptr ptrC_39) (hw.2.1 _ finC_31).2.1)).1.2.2.1 (by decide) (by decide)
  have t27_ : (qN S8_16 (qO S8_16 (qO S8_16 66 0) 5) : Int) = (qN S (qO S (qO S 66 0) 5) : Int) := by rw [o17_]; exact q4_.2.kL (j := 5) hw (hw.ref (hw.ptr ptrC_39) (hw.2.1 _ finC_31).2.1) (g.row (hw.ref (hw.ptr ptrC_39) (hw.2.1 _ finC_31).2.1)).1.2.2.2.1 (by decide) (by decide)
  have g : ShC B S8_16 := q4_.1.1
  refine ⟨?_, ?_⟩
  · exact dd_X6_isStore
  refine ⟨fun c28_ => ?_, fun c28_ => ?_⟩
  · refine ⟨?_, ?_⟩
    · exact dd_X6_usesLocal
    refine ⟨fun c29_ => ?_, fun c29_ => ?_⟩
    · unfold w_X9_liveBefore_J50
      intro y7_
      refine ⟨(2147483648 - (0 : Int32).toInt).toNat + 1, ?_⟩
      refine sg_X9_liveBefore_L53  _ g ?_ ?_
      · have s30_ := (g.row (y7_.ref (y7_.ptr ptrC_39) (y7_.2.1 _ finC_31).2.1)).2
        have s31_ := g.smk
        unfold SmK at s31_
        have n1_ := li_0k
        have n2_ := rgI a5_15
        have n3_ := rgI (fX8_opAt S (qO S 66 0) x1)
        have n4_ := rgI (fX6_isStore S8_16 a5_15)
        have n5_ := rgI (fX6_usesLocal S8_16 a5_15)
        omega
      · have s32_ := (g.row (y7_.ref (y7_.ptr ptrC_39) (y7_.2.1 _ finC_31).2.1)).2
        have s33_ := g.smk
        unfold SmK at s33_
        have n1_ := li_0k
        have n2_ := rgI a5_15
        have n3_ := rgI (fX8_opAt S (qO S 66 0) x1)
        have n4_ := rgI (fX6_isStore S8_16 a5_15)
        have n5_ := rgI (fX6_usesLocal S8_16 a5_15)
        omega
    · refine ⟨?_, ?_⟩
      · exact (dd_X9_localBits y5_ g)
      intro a40_34 ea40_34 
      have ga40_34 := congrArg Int32.toInt ea40_34
      unfold w_X9_liveBefore_J50
      intro y8_
      refine ⟨(2147483648 - (0 : Int32).toInt).toNat + 1, ?_⟩
      refine sg_X9_liveBefore_L53  _ g ?_ ?_
      · have s35_ := (g.row (y8_.ref (y8_.ptr ptrC_39) (y8_.2.1 _ finC_31).2.1)).2
        have s36_ := g.smk
        unfold SmK at s36_
        have n1_ := li_0k
        have n2_ := rgI a5_15
        have n3_ := rgI (fX8_opAt S (qO S 66 0) x1)
        have n4_ := rgI (fX6_isStore S8_16 a5_15)
        have n5_ := rgI (fX6_usesLocal S8_16 a5_15)
        have n6_ := rgI a40_34
        have n7_ := rgI (r7_16 ||| (fX9_localBits S8_16 x1))
        omega
      · have s37_ := (g.row (y8_.ref (y8_.ptr ptrC_39) (y8_.2.1 _ finC_31).2.1)).2
        have s38_ := g.smk
        unfold SmK at s38_
        have n1_ := li_0k
        have n2_ := rgI a5_15
        have n3_ := rgI (fX8_opAt S (qO S 66 0) x1)
        have n4_ := rgI (fX6_isStore S8_16 a5_15)
        have n5_ := rgI (fX6_usesLocal S8_16 a5_15)
        have n6_ := rgI a40_34
        have n7_ := rgI (r7_16 ||| (fX9_localBits S8_16 x1))
        omega
  · refine ⟨?_, ?_⟩
    · exact (dd_X9_localBits y5_ g)
    intro a46_39 ea46_39 
    have ga46_39 := congrArg Int32.toInt ea46_39
    unfold w_X9_liveBefore_J50
    intro y9_
    refine ⟨(2147483648 - (0 : Int32).toInt).toNat + 1, ?_⟩
    refine sg_X9_liveBefore_L53  _ g ?_ ?_
    · have s40_ := (g.row (y9_.ref (y9_.ptr ptrC_39) (y9_.2.1 _ finC_31).2.1)).2
      have s41_ := g.smk
      unfold SmK at s41_
      have n1_ := li_0k
      have n2_ := rgI a5_15
      have n3_ := rgI (fX8_opAt S (qO S 66 0) x1)
      have n4_ := rgI (fX6_isStore S8_16 a5_15)
      have n5_ := rgI a46_39
      have n6_ := rgI (r7_16 &&& ((fX9_localBits S8_16 x1) ^^^ (-1 : Int32)))
      omega
    · have s42_ := (g.row (y9_.ref (y9_.ptr ptrC_39) (y9_.2.1 _ finC_31).2.1)).2
      have s43_ := g.smk
      unfold SmK at s43_
      have n1_ := li_0k
      have n2_ := rgI a5_15
      have n3_ := rgI (fX8_opAt S (qO S 66 0) x1)
      have n4_ := rgI (fX6_isStore S8_16 a5_15)
      have n5_ := rgI a46_39
      have n6_ := rgI (r7_16 &&& ((fX9_localBits S8_16 x1) ^^^ (-1 : Int32)))
      omega
