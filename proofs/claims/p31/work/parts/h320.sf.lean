/-! safety of the readers -/
theorem sfJ7_fill_53178_L5 {p : Nat} : ∀ (n : Nat) {U5 : MS} {x1 x2 x3 : Int32}, 0 ≤ x2.toInt → x3.toInt ≤ (qN U5 p : Int) → 2147483648 - x2.toInt < n → w_J7_fill_53178_L5 (fun _ => True) n U5 p x1 x2 x3 := by
  intro n
  induction n with
  | zero => intro U5 x1 x2 x3 h0 h1 hm; exfalso; have := rgI x2; omega
  | succ n ih =>
    intro U5 x1 x2 x3 h0 h1 hm
    unfold w_J7_fill_53178_L5
    intro w
    refine ⟨fun c => trivial, fun c => ⟨⟨h0, by omega⟩, fun S4 e4 w4 a5 e5 => ?_⟩⟩
    have g5 := congrArg Int32.toInt e5
    have n1 := lo_1k
    have n2 := t_addD (a := x2) (b := Int32.ofInt 1)
    have n3 := rgI x3
    have n4 : qN S4 p = qN U5 p := by rw [e4]; rfl
    exact ih (by omega) (by rw [n4]; exact h1) (by omega)
theorem sfJ7_fill_53178 {S : MS} {p0 kd : Nat} {x1 : Int32} (hw : wfC S) (hk : qT S p0 = kd) (h0 : kd ≠ 0) : wJ7_fill_53178 S p0 x1 (fun _ => True) := by
  unfold wJ7_fill_53178
  intro a1 e1
  have g := congrArg Int32.toInt e1
  rw [toI_len (hw.len9 hk h0)] at g
  exact ⟨2147483649, sfJ7_fill_53178_L5 _ (by decide) (by omega) (by rw [li_0k]; decide)⟩
theorem rg_u1 {S : MS} {x : Int32} : 0 ≤ (fX7_u1 S x).toInt ∧ (fX7_u1 S x).toInt < 256 := by
  have z : (f_X7_u1_J21 S).toInt = 0 := li_0k
  unfold fX7_u1
  split
  · omega
  · split
    · omega
    · split
      · exact c_andk (k := 8) (b := 256) rfl (by decide) (by decide) rfl
      · omega
theorem rg_u2 {S : MS} {x : Int32} : 0 ≤ (fX7_u2 S x).toInt ∧ (fX7_u2 S x).toInt < 65536 := by
  have z := li_0k
  unfold fX7_u2
  split
  · omega
  · split
    · omega
    · split
      · have h1 : 0 ≤ ((qI S (qO S 9 0) x.toInt.toNat) &&& (255 : Int32)).toInt ∧ ((qI S (qO S 9 0) x.toInt.toNat) &&& (255 : Int32)).toInt < 256 := c_andk (k := 8) (b := 256) rfl (by decide) (by decide) rfl
        have h2 : 0 ≤ ((qI S (qO S 9 0) (((x + (1 : Int32)).toInt).toNat)) &&& (255 : Int32)).toInt ∧ ((qI S (qO S 9 0) (((x + (1 : Int32)).toInt).toNat)) &&& (255 : Int32)).toInt < 256 := c_andk (k := 8) (b := 256) rfl (by decide) (by decide) rfl
        have h3 := c_shlk (z := ((qI S (qO S 9 0) x.toInt.toNat) &&& (255 : Int32)) <<< ((8 : Int32) &&& 31)) (k := 8) (j := 8) (b := 256) (c := 65536) rfl (by decide) rfl rfl (by decide) h1
        exact c_ork (k := 16) (b := 65536) rfl rfl (by decide) h3 ⟨h2.1, by omega⟩
      · omega
theorem rg_nl {S : MS} {x : Int32} : 0 ≤ (fX7_nameLength S x).toInt ∧ (fX7_nameLength S x).toInt < 65536 := rg_u2
theorem cfr.kI {K : List Nat} {F : List (Nat × Nat)} {S u : MS} {a j t : Nat} (f : cfr K F S u) (hk : qT S a = t) (hK : K.contains t = false) (hF : F.contains (t, j) = false) (h0 : t ≠ 0 := by decide) : qI u a j = qI S a j := (f.2.2 a j (by rw [hk]; exact h0) (by rw [hk]; exact hK) (by rw [hk]; exact hF)).1
set_option maxRecDepth 100000 in
theorem sfX7_breaks {S : MS} {x1 : Int32} {x2 : Int32} (hw : wfC S)  : wX7_breaks S x1 x2 (fun _ _ => True) := by
  have f : cfr [] [(46, 2), (46, 3)] S S := cfr.rf
  unfold wX7_breaks
  intro S1_0 eS1_0 y1_ y2_
  have f := f.tr (show cfr [] [(46, 2), (46, 3)] S S1_0 by rw [eS1_0]; exact cfr.oI y1_ (by decide))
  intro S2_1 eS2_1 y3_ y4_
  have f := f.tr (show cfr [] [(46, 2), (46, 3)] S1_0 S2_1 by rw [eS2_1]; exact cfr.oI y3_ (by decide))
  exact trivial
set_option maxRecDepth 100000 in
theorem sfX7_isThere {S : MS} {x1 : Int32} (hw : wfC S)  : wX7_isThere S x1 (fun _ _ => True) := by
  have f : cfr [] [(46, 2), (46, 3)] S S := cfr.rf
  unfold wX7_isThere
  refine ⟨fun c0_ => ?_, fun c0_ => ?_⟩
  · unfold w_X7_isThere_J25
    intro y1_
    exact trivial
  · refine ⟨_, frX7_breaks hw (sfX7_breaks hw ), ?_⟩
    intro r4_1 S5_1 q2_ y3_ y4_
    have f := f.tr (q2_.2.mo (by decide) (by decide))
    refine ⟨fun c2_ => ?_, fun c2_ => ?_⟩
    · exact trivial
    · unfold w_X7_isThere_J25
      intro y5_
      exact trivial
set_option maxRecDepth 100000 in
theorem sfX7_headFits {S : MS} (hw : wfC S)  : wX7_headFits S (fun _ _ => True) := by
  have f : cfr [] [(46, 2), (46, 3), (46, 6), (46, 15)] S S := cfr.rf
  unfold wX7_headFits
  intro S1_0 eS1_0 y1_ y2_
  have f := f.tr (show cfr [] [(46, 2), (46, 3), (46, 6), (46, 15)] S S1_0 by rw [eS1_0]; exact cfr.oI y1_ (by decide))
  refine ⟨_, frX7_isThere y2_ (sfX7_isThere y2_ ), ?_⟩
  intro r3_1 S4_1 q3_ y4_ y5_
  have f := f.tr (q3_.2.mo (by decide) (by decide))
  refine ⟨fun c2_ => ?_, fun c2_ => ?_⟩
  · exact trivial
  · intro S8_3 eS8_3 y6_ y7_
    have f := f.tr (show cfr [] [(46, 2), (46, 3), (46, 6), (46, 15)] S4_1 S8_3 by rw [eS8_3]; exact cfr.oI y6_ (by decide))
    exact trivial
set_option maxRecDepth 100000 in
theorem sf_X7_attributesFit_L31 {S0 : MS} (h9 : 0 ≤ (qI S0 9 1).toInt) (hk9 : qT S0 9 = 46) : ∀ (n : Nat) {U31 : MS} {v31_1 : Int32} {v31_2 : Int32}, cfr [] [(46, 2), (46, 3), (46, 15)] S0 U31 → 2147483648 - v31_2.toInt < n → w_X7_attributesFit_L31 (fun _ _ => True) n U31 v31_1 v31_2 := by
  intro n
  induction n with
  | zero => intro U31 v31_1 v31_2 f  hm_; exfalso; have := rgI v31_1; have := rgI v31_2; omega
  | succ n ih31 =>
    intro U31 v31_1 v31_2 f  hm_
    unfold w_X7_attributesFit_L31
    intro y1_
    refine ⟨fun c0_ => ?_, fun c0_ => ?_⟩
    · exact trivial
    · refine ⟨_, frX7_isThere y1_ (sfX7_isThere y1_ ), ?_⟩
      intro r14_1 S15_1 q2_ y3_ y4_
      have f := f.tr (q2_.2.mo (by decide) (by decide))
      refine ⟨fun c2_ => ?_, fun c2_ => ?_⟩
      · exact trivial
      · refine ⟨?_, ?_⟩
        · exact dd_X7_u4 (by rw [f.kI (a := 9) (j := 1) hk9 (by decide) (by decide)]; exact h9)
        intro a22_3 ea22_3 
        intro S24_4 eS24_4 y5_ y6_
        have f := f.tr (show cfr [] [(46, 2), (46, 3), (46, 15)] S15_1 S24_4 by rw [eS24_4]; exact cfr.oI y5_ (by decide))
        refine ⟨fun c5_ => ?_, fun c5_ => ?_⟩
        · intro S29_6 eS29_6 y7_ y8_
          have f := f.tr (show cfr [] [(46, 2), (46, 3), (46, 15)] S24_4 S29_6 by rw [eS29_6]; exact cfr.oI y7_ (by decide))
          intro a30_7 ea30_7 
          have ga30_7 := congrArg Int32.toInt ea30_7
          refine ih31 f  ?_
          · have n1_ := rgI a30_7
            have n2_ := rgI v31_2
            have n3_ := rgI v31_1
            have n4_ := rgI r14_1
            have n5_ := rgI (lg_cmp a22_3 (((qI S24_4 9 1) - (qI S24_4 9 15)).toInt64))
            have n7_ := lo_1k
            have n7_ := t_addD (a := v31_2) (b := Int32.ofInt 1)
            have n8_ := rgI (v31_2 + Int32.ofInt 1)
            omega
        · refine ⟨_, frX7_breaks y6_ (sfX7_breaks y6_ ), ?_⟩
          intro r32_8 S33_8 q9_ y10_ y11_
          have f := f.tr (q9_.2.mo (by decide) (by decide))
          exact trivial
set_option maxRecDepth 100000 in
theorem sfX7_attributesFit {S : MS} (hw : wfC S) (h9 : 0 ≤ (qI S 9 1).toInt) (hk9 : qT S 9 = 46) : wX7_attributesFit S (fun _ _ => True) := by
  have f : cfr [] [(46, 2), (46, 3), (46, 15)] S S := cfr.rf
  unfold wX7_attributesFit
  refine ⟨_, frX7_isThere hw (sfX7_isThere hw ), ?_⟩
  intro r2_9 S3_9 q12_ y13_ y14_
  have f := f.tr (q12_.2.mo (by decide) (by decide))
  refine ⟨fun c10_ => ?_, fun c10_ => ?_⟩
  · exact trivial
  · refine ⟨?_, ?_⟩
    · exact dd_X7_u2 (by rw [f.kI (a := 9) (j := 1) hk9 (by decide) (by decide)]; exact h9)
    intro a9_11 ea9_11 
    have ga9_11 := congrArg Int32.toInt ea9_11
    intro S11_12 eS11_12 y15_ y16_
    have f := f.tr (show cfr [] [(46, 2), (46, 3), (46, 15)] S3_9 S11_12 by rw [eS11_12]; exact cfr.oI y15_ (by decide))
    refine ⟨(2147483648 - (0 : Int32).toInt).toNat + 1, ?_⟩
    refine sf_X7_attributesFit_L31 h9 hk9 _ f  ?_
    · have n1_ := li_0k
      have n2_ := rgI r2_9
      have n3_ := rgI a9_11
      have n4_ := rgI (fX7_u2 S3_9 (qI S3_9 9 15))
      omega
set_option maxRecDepth 100000 in
theorem sf_X7_flagsHold_L26 {S0 : MS} (h9 : 0 ≤ (qI S0 9 1).toInt) (hk9 : qT S0 9 = 46) : ∀ (n : Nat) {U26 : MS} {v26_1 : Int32}, cfr [] [(46, 2), (46, 3)] S0 U26 → 2147483648 - v26_1.toInt < n → w_X7_flagsHold_L26 (fun _ _ => True) n U26 v26_1 := by
  intro n
  induction n with
  | zero => intro U26 v26_1 f  hm_; exfalso; have := rgI v26_1; omega
  | succ n ih26 =>
    intro U26 v26_1 f  hm_
    unfold w_X7_flagsHold_L26
    intro y1_
    refine ⟨fun c0_ => ?_, fun c0_ => ?_⟩
    · exact trivial
    · refine ⟨?_, ?_⟩
      · exact dd_X7_memberPlace
      intro a11_1 ea11_1 
      have ga11_1 := congrArg Int32.toInt ea11_1
      refine ⟨?_, ?_⟩
      · exact dd_X7_u2 (by rw [f.kI (a := 9) (j := 1) hk9 (by decide) (by decide)]; exact h9)
      intro a15_2 ea15_2 
      have ga15_2 := congrArg Int32.toInt ea15_2
      refine ⟨fun c3_ => ?_, fun c3_ => ?_⟩
      · intro a17_4 ea17_4 
        have ga17_4 := congrArg Int32.toInt ea17_4
        refine ih26 f  ?_
        · have n1_ := rgI a17_4
          have n2_ := rgI v26_1
          have n4_ := rgI (qI U26 9 7)
          have n5_ := rgI (qI U26 9 8)
          have n5_ := t_addD (a := (qI U26 9 7)) (b := (qI U26 9 8))
          have n6_ := rgI ((qI U26 9 7) + (qI U26 9 8))
          have n7_ := rgI a11_1
          have n8_ := rgI (fX7_memberPlace U26 v26_1)
          have n9_ := rgI a15_2
          have n10_ := rgI (fX7_u2 U26 a11_1)
          have n12_ := lo_1k
          have n12_ := t_addD (a := v26_1) (b := Int32.ofInt 1)
          have n13_ := rgI (v26_1 + Int32.ofInt 1)
          omega
      · refine ⟨?_, ?_⟩
        · exact dd_X7_memberPlace
        intro a21_5 ea21_5 
        have ga21_5 := congrArg Int32.toInt ea21_5
        refine ⟨_, frX7_breaks y1_ (sfX7_breaks y1_ ), ?_⟩
        intro r23_6 S24_6 q2_ y3_ y4_
        have f := f.tr (q2_.2.mo (by decide) (by decide))
        exact trivial
set_option maxRecDepth 100000 in
theorem sfX7_flagsHold {S : MS} (hw : wfC S) (h9 : 0 ≤ (qI S 9 1).toInt) (hk9 : qT S 9 = 46) : wX7_flagsHold S (fun _ _ => True) := by
  have f : cfr [] [(46, 2), (46, 3)] S S := cfr.rf
  unfold wX7_flagsHold
  refine ⟨?_, ?_⟩
  · exact dd_X7_u2 (by rw [f.kI (a := 9) (j := 1) hk9 (by decide) (by decide)]; exact h9)
  intro a4_7 ea4_7 
  have ga4_7 := congrArg Int32.toInt ea4_7
  refine ⟨fun c8_ => ?_, fun c8_ => ?_⟩
  · refine ⟨(2147483648 - (0 : Int32).toInt).toNat + 1, ?_⟩
    refine sf_X7_flagsHold_L26 h9 hk9 _ f  ?_
    · have n1_ := li_0k
      have n2_ := rgI a4_7
      have n3_ := rgI (fX7_u2 S (qI S 9 6))
      omega
  · refine ⟨_, frX7_breaks hw (sfX7_breaks hw ), ?_⟩
    intro r27_9 S28_9 q5_ y6_ y7_
    have f := f.tr (q5_.2.mo (by decide) (by decide))
    exact trivial
set_option maxRecDepth 100000 in
theorem sfX7_isNameAt {S : MS} {x1 : Int32} (hw : wfC S) (h9 : 0 ≤ (qI S 9 1).toInt) (hk9 : qT S 9 = 46) : wX7_isNameAt S x1 (fun _ _ => True) := by
  have f : cfr [] [(46, 2), (46, 3)] S S := cfr.rf
  unfold wX7_isNameAt
  refine ⟨?_, ?_⟩
  · exact dd_X7_u2 (by rw [f.kI (a := 9) (j := 1) hk9 (by decide) (by decide)]; exact h9)
  intro a4_0 ea4_0 
  have ga4_0 := congrArg Int32.toInt ea4_0
  refine ⟨?_, ?_⟩
  · exact dd_X7_tagOf
  intro a8_1 ea8_1 
  have ga8_1 := congrArg Int32.toInt ea8_1
  refine ⟨fun c2_ => ?_, fun c2_ => ?_⟩
  · unfold w_X7_isNameAt_J23
    intro y1_
    exact trivial
  · refine ⟨_, frX7_breaks hw (sfX7_breaks hw ), ?_⟩
    intro r11_3 S12_3 q2_ y3_ y4_
    have f := f.tr (q2_.2.mo (by decide) (by decide))
    refine ⟨fun c4_ => ?_, fun c4_ => ?_⟩
    · exact trivial
    · unfold w_X7_isNameAt_J23
      intro y5_
      exact trivial
set_option maxRecDepth 100000 in
theorem sf_X7_attributeNamesHold_L13 {S0 : MS} (h9 : 0 ≤ (qI S0 9 1).toInt) (hk9 : qT S0 9 = 46) : ∀ (n : Nat) {U13 : MS} {v13_2 : Int32} {v13_3 : Int32} {v13_4 : Int32}, cfr [] [(46, 2), (46, 3)] S0 U13 → 2147483648 - v13_4.toInt < n → w_X7_attributeNamesHold_L13 (fun _ _ => True) n U13 v13_2 v13_3 v13_4 := by
  intro n
  induction n with
  | zero => intro U13 v13_2 v13_3 v13_4 f  hm_; exfalso; have := rgI v13_2; have := rgI v13_3; have := rgI v13_4; omega
  | succ n ih13 =>
    intro U13 v13_2 v13_3 v13_4 f  hm_
    unfold w_X7_attributeNamesHold_L13
    intro y1_
    refine ⟨fun c0_ => ?_, fun c0_ => ?_⟩
    · exact trivial
    · refine ⟨_, frX7_isNameAt y1_ (sfX7_isNameAt y1_  (by rw [f.kI (a := 9) (j := 1) hk9 (by decide) (by decide)]; exact h9) (f.1.T hk9 (by decide))), ?_⟩
      intro r9_1 S10_1 q2_ y3_ y4_
      have f := f.tr (q2_.2.mo (by decide) (by decide))
      refine ⟨fun c2_ => ?_, fun c2_ => ?_⟩
      · exact trivial
      · refine ⟨?_, ?_⟩
        · exact dd_X7_s4 (by rw [f.kI (a := 9) (j := 1) hk9 (by decide) (by decide)]; exact h9)
        intro a19_3 ea19_3 
        have ga19_3 := congrArg Int32.toInt ea19_3
        intro a20_4 ea20_4 
        have ga20_4 := congrArg Int32.toInt ea20_4
        refine ih13 f  ?_
        · have n1_ := rgI a20_4
          have n2_ := rgI v13_4
          have n3_ := rgI v13_2
          have n4_ := rgI r9_1
          have n5_ := rgI a19_3
          have n7_ := rgI v13_3
          have n9_ := li_6k
          have n10_ := rgI (fX7_s4 S10_1 (v13_3 + (2 : Int32)))
          have n10_ := t_addD (a := (6 : Int32)) (b := (fX7_s4 S10_1 (v13_3 + (2 : Int32))))
          have n11_ := rgI ((6 : Int32) + (fX7_s4 S10_1 (v13_3 + (2 : Int32))))
          have n11_ := t_addD (a := v13_3) (b := ((6 : Int32) + (fX7_s4 S10_1 (v13_3 + (2 : Int32)))))
          have n12_ := rgI (v13_3 + ((6 : Int32) + (fX7_s4 S10_1 (v13_3 + (2 : Int32)))))
          have n14_ := lo_1k
          have n14_ := t_addD (a := v13_4) (b := Int32.ofInt 1)
          have n15_ := rgI (v13_4 + Int32.ofInt 1)
          omega
set_option maxRecDepth 100000 in
theorem sfX7_attributeNamesHold {S : MS} {x1 : Int32} (hw : wfC S) (h9 : 0 ≤ (qI S 9 1).toInt) (hk9 : qT S 9 = 46) : wX7_attributeNamesHold S x1 (fun _ _ => True) := by
  have f : cfr [] [(46, 2), (46, 3)] S S := cfr.rf
  unfold wX7_attributeNamesHold
  refine ⟨?_, ?_⟩
  · exact dd_X7_u2 (by rw [f.kI (a := 9) (j := 1) hk9 (by decide) (by decide)]; exact h9)
  intro a4_5 ea4_5 
  have ga4_5 := congrArg Int32.toInt ea4_5
  intro a6_6 ea6_6 
  have ga6_6 := congrArg Int32.toInt ea6_6
  refine ⟨(2147483648 - (0 : Int32).toInt).toNat + 1, ?_⟩
  refine sf_X7_attributeNamesHold_L13 h9 hk9 _ f  ?_
  · have n1_ := li_0k
    have n2_ := rgI a4_5
    have n3_ := rgI (fX7_u2 S x1)
    have n4_ := rgI a6_6
    have n6_ := rgI x1
    have n7_ := li_2k
    have n7_ := t_addD (a := x1) (b := (2 : Int32))
    have n8_ := rgI (x1 + (2 : Int32))
    omega
set_option maxRecDepth 100000 in
theorem sf_X7_isMethodType_L44 {S0 : MS} (h9 : 0 ≤ (qI S0 9 1).toInt) (hk9 : qT S0 9 = 46) : ∀ (n : Nat) {U44 : MS} {v44_1 : Int32} {v44_2 : Int32} {v44_3 : Int32} {v44_4 : Int32}, cfr [] [(46, 12), (46, 13), (46, 14)] S0 U44 → v44_2.toInt ≤ 65535 → 2147483648 - v44_3.toInt < n → w_X7_isMethodType_L44 (fun _ _ => True) n U44 v44_1 v44_2 v44_3 v44_4 := by
  intro n
  induction n with
  | zero => intro U44 v44_1 v44_2 v44_3 v44_4 f j0_ hm_; exfalso; have := rgI v44_1; have := rgI v44_2; have := rgI v44_3; have := rgI v44_4; omega
  | succ n ih44 =>
    intro U44 v44_1 v44_2 v44_3 v44_4 f j0_ hm_
    unfold w_X7_isMethodType_L44
    intro y1_
    refine ⟨fun c0_ => ?_, fun c0_ => ?_⟩
    · unfold w_X7_isMethodType_J112
      intro y2_
      refine ⟨fun c1_ => ?_, fun c1_ => ?_⟩
      · exact trivial
      · refine ⟨?_, ?_⟩
        · exact dd_X7_nameSign
        refine ⟨fun c2_ => ?_, fun c2_ => ?_⟩
        · intro a22_3 ea22_3 
          have ga22_3 := congrArg Int32.toInt ea22_3
          refine ⟨?_, ?_⟩
          · exact dd_X7_kindOfPart (by rw [f.kI (a := 9) (j := 1) hk9 (by decide) (by decide)]; exact h9)
          intro S26_4 eS26_4 y3_ y4_
          have f := f.tr (show cfr [] [(46, 12), (46, 13), (46, 14)] U44 S26_4 by rw [eS26_4]; exact cfr.oI y3_ (by decide))
          refine ⟨fun c5_ => ?_, fun c5_ => ?_⟩
          · refine ⟨?_, ?_⟩
            · exact dd_X7_nameSign
            refine ⟨fun c6_ => ?_, fun c6_ => ?_⟩
            · unfold w_X7_isMethodType_J165
              intro y5_
              refine ⟨fun c7_ => ?_, fun c7_ => ?_⟩
              · unfold w_X7_isMethodType_J179
                intro y6_
                refine ⟨fun c8_ => ?_, fun c8_ => ?_⟩
                · exact trivial
                · exact trivial
              · unfold w_X7_isMethodType_J179
                intro y7_
                refine ⟨fun c9_ => ?_, fun c9_ => ?_⟩
                · exact trivial
                · exact trivial
            · exact trivial
          · unfold w_X7_isMethodType_J165
            intro y8_
            refine ⟨fun c10_ => ?_, fun c10_ => ?_⟩
            · unfold w_X7_isMethodType_J179
              intro y9_
              refine ⟨fun c11_ => ?_, fun c11_ => ?_⟩
              · exact trivial
              · exact trivial
            · unfold w_X7_isMethodType_J179
              intro y10_
              refine ⟨fun c12_ => ?_, fun c12_ => ?_⟩
              · exact trivial
              · exact trivial
        · exact trivial
    · refine ⟨fun c13_ => ?_, fun c13_ => ?_⟩
      · unfold w_X7_isMethodType_J112
        intro y11_
        refine ⟨fun c14_ => ?_, fun c14_ => ?_⟩
        · exact trivial
        · refine ⟨?_, ?_⟩
          · exact dd_X7_nameSign
          refine ⟨fun c15_ => ?_, fun c15_ => ?_⟩
          · intro a22_16 ea22_16 
            have ga22_16 := congrArg Int32.toInt ea22_16
            refine ⟨?_, ?_⟩
            · exact dd_X7_kindOfPart (by rw [f.kI (a := 9) (j := 1) hk9 (by decide) (by decide)]; exact h9)
            intro S26_17 eS26_17 y12_ y13_
            have f := f.tr (show cfr [] [(46, 12), (46, 13), (46, 14)] U44 S26_17 by rw [eS26_17]; exact cfr.oI y12_ (by decide))
            refine ⟨fun c18_ => ?_, fun c18_ => ?_⟩
            · refine ⟨?_, ?_⟩
              · exact dd_X7_nameSign
              refine ⟨fun c19_ => ?_, fun c19_ => ?_⟩
              · unfold w_X7_isMethodType_J165
                intro y14_
                refine ⟨fun c20_ => ?_, fun c20_ => ?_⟩
                · unfold w_X7_isMethodType_J179
                  intro y15_
                  refine ⟨fun c21_ => ?_, fun c21_ => ?_⟩
                  · exact trivial
                  · exact trivial
                · unfold w_X7_isMethodType_J179
                  intro y16_
                  refine ⟨fun c22_ => ?_, fun c22_ => ?_⟩
                  · exact trivial
                  · exact trivial
              · exact trivial
            · unfold w_X7_isMethodType_J165
              intro y17_
              refine ⟨fun c23_ => ?_, fun c23_ => ?_⟩
              · unfold w_X7_isMethodType_J179
                intro y18_
                refine ⟨fun c24_ => ?_, fun c24_ => ?_⟩
                · exact trivial
                · exact trivial
              · unfold w_X7_isMethodType_J179
                intro y19_
                refine ⟨fun c25_ => ?_, fun c25_ => ?_⟩
                · exact trivial
                · exact trivial
          · exact trivial
      · intro S39_26 eS39_26 y20_ y21_
        have f := f.tr (show cfr [] [(46, 12), (46, 13), (46, 14)] U44 S39_26 by rw [eS39_26]; exact cfr.oI y20_ (by decide))
        refine ⟨fun c27_ => ?_, fun c27_ => ?_⟩
        · unfold w_X7_isMethodType_J83
          intro y22_
          intro S41_28 eS41_28 y23_ y24_
          have f := f.tr (show cfr [] [(46, 12), (46, 13), (46, 14)] S39_26 S41_28 by rw [eS41_28]; exact cfr.oI y23_ (by decide))
          refine ⟨fun c29_ => ?_, fun c29_ => ?_⟩
          · unfold w_X7_isMethodType_J99
            intro y25_
            intro a43_30 ea43_30 
            have ga43_30 := congrArg Int32.toInt ea43_30
            refine ⟨?_, ?_⟩
            · exact dd_X7_kindOfPart (by rw [f.kI (a := 9) (j := 1) hk9 (by decide) (by decide)]; exact h9)
            intro a47_31 ea47_31 
            have ga47_31 := congrArg Int32.toInt ea47_31
            refine ih44 f ?_ ?_
            · have n1_ := rgI v44_2
              have n2_ := rgI v44_3
              have n3_ := rgI v44_4
              have n4_ := rgI a43_30
              have n6_ := li_2k
              have n6_ := t_addD (a := v44_3) (b := (2 : Int32))
              have n7_ := rgI (v44_3 + (2 : Int32))
              have n8_ := rgI a47_31
              have n9_ := rgI (fX7_kindOfPart S41_28 v44_1 a43_30)
              omega
            · have n1_ := rgI a43_30
              have n2_ := rgI v44_2
              have n3_ := rgI v44_3
              have n4_ := rgI v44_4
              have n6_ := li_2k
              have n6_ := t_addD (a := v44_3) (b := (2 : Int32))
              have n7_ := rgI (v44_3 + (2 : Int32))
              have n8_ := rgI a47_31
              have n9_ := rgI (fX7_kindOfPart S41_28 v44_1 a43_30)
              omega
          · unfold w_X7_isMethodType_J99
            intro y26_
            intro a43_32 ea43_32 
            have ga43_32 := congrArg Int32.toInt ea43_32
            refine ⟨?_, ?_⟩
            · exact dd_X7_kindOfPart (by rw [f.kI (a := 9) (j := 1) hk9 (by decide) (by decide)]; exact h9)
            intro a47_33 ea47_33 
            have ga47_33 := congrArg Int32.toInt ea47_33
            refine ih44 f ?_ ?_
            · have n1_ := rgI v44_2
              have n2_ := rgI v44_3
              have n3_ := rgI v44_4
              have n4_ := rgI a43_32
              have n6_ := li_1k
              have n6_ := t_addD (a := v44_3) (b := (1 : Int32))
              have n7_ := rgI (v44_3 + (1 : Int32))
              have n8_ := rgI a47_33
              have n9_ := rgI (fX7_kindOfPart S41_28 v44_1 a43_32)
              omega
            · have n1_ := rgI a43_32
              have n2_ := rgI v44_2
              have n3_ := rgI v44_3
              have n4_ := rgI v44_4
              have n6_ := li_1k
              have n6_ := t_addD (a := v44_3) (b := (1 : Int32))
              have n7_ := rgI (v44_3 + (1 : Int32))
              have n8_ := rgI a47_33
              have n9_ := rgI (fX7_kindOfPart S41_28 v44_1 a43_32)
              omega
        · unfold w_X7_isMethodType_J83
          intro y27_
          intro S41_34 eS41_34 y28_ y29_
          have f := f.tr (show cfr [] [(46, 12), (46, 13), (46, 14)] S39_26 S41_34 by rw [eS41_34]; exact cfr.oI y28_ (by decide))
          refine ⟨fun c35_ => ?_, fun c35_ => ?_⟩
          · unfold w_X7_isMethodType_J99
            intro y30_
            intro a43_36 ea43_36 
            have ga43_36 := congrArg Int32.toInt ea43_36
            refine ⟨?_, ?_⟩
            · exact dd_X7_kindOfPart (by rw [f.kI (a := 9) (j := 1) hk9 (by decide) (by decide)]; exact h9)
            intro a47_37 ea47_37 
            have ga47_37 := congrArg Int32.toInt ea47_37
            refine ih44 f ?_ ?_
            · have n1_ := rgI v44_2
              have n2_ := rgI v44_3
              have n3_ := rgI v44_4
              have n4_ := rgI a43_36
              have n6_ := li_2k
              have n6_ := t_addD (a := v44_3) (b := (2 : Int32))
              have n7_ := rgI (v44_3 + (2 : Int32))
              have n8_ := rgI a47_37
              have n9_ := rgI (fX7_kindOfPart S41_34 v44_1 a43_36)
              omega
            · have n1_ := rgI a43_36
              have n2_ := rgI v44_2
              have n3_ := rgI v44_3
              have n4_ := rgI v44_4
              have n6_ := li_2k
              have n6_ := t_addD (a := v44_3) (b := (2 : Int32))
              have n7_ := rgI (v44_3 + (2 : Int32))
              have n8_ := rgI a47_37
              have n9_ := rgI (fX7_kindOfPart S41_34 v44_1 a43_36)
              omega
          · unfold w_X7_isMethodType_J99
            intro y31_
            intro a43_38 ea43_38 
            have ga43_38 := congrArg Int32.toInt ea43_38
            refine ⟨?_, ?_⟩
            · exact dd_X7_kindOfPart (by rw [f.kI (a := 9) (j := 1) hk9 (by decide) (by decide)]; exact h9)
            intro a47_39 ea47_39 
            have ga47_39 := congrArg Int32.toInt ea47_39
            refine ih44 f ?_ ?_
            · have n1_ := rgI v44_2
              have n2_ := rgI v44_3
              have n3_ := rgI v44_4
              have n4_ := rgI a43_38
              have n6_ := li_1k
              have n6_ := t_addD (a := v44_3) (b := (1 : Int32))
              have n7_ := rgI (v44_3 + (1 : Int32))
              have n8_ := rgI a47_39
              have n9_ := rgI (fX7_kindOfPart S41_34 v44_1 a43_38)
              omega
            · have n1_ := rgI a43_38
              have n2_ := rgI v44_2
              have n3_ := rgI v44_3
              have n4_ := rgI v44_4
              have n6_ := li_1k
              have n6_ := t_addD (a := v44_3) (b := (1 : Int32))
              have n7_ := rgI (v44_3 + (1 : Int32))
              have n8_ := rgI a47_39
              have n9_ := rgI (fX7_kindOfPart S41_34 v44_1 a43_38)
              omega
set_option maxRecDepth 100000 in
theorem sfX7_isMethodType {S : MS} {x1 : Int32} (hw : wfC S) (h9 : 0 ≤ (qI S 9 1).toInt) (hk9 : qT S 9 = 46) : wX7_isMethodType S x1 (fun _ _ => True) := by
  have f : cfr [] [(46, 12), (46, 13), (46, 14)] S S := cfr.rf
  unfold wX7_isMethodType
  intro S1_40 eS1_40 y32_ y33_
  have f := f.tr (show cfr [] [(46, 12), (46, 13), (46, 14)] S S1_40 by rw [eS1_40]; exact cfr.oI y32_ (by decide))
  intro S2_41 eS2_41 y34_ y35_
  have f := f.tr (show cfr [] [(46, 12), (46, 13), (46, 14)] S1_40 S2_41 by rw [eS2_41]; exact cfr.oI y34_ (by decide))
  intro S3_42 eS3_42 y36_ y37_
  have f := f.tr (show cfr [] [(46, 12), (46, 13), (46, 14)] S2_41 S3_42 by rw [eS3_42]; exact cfr.oI y36_ (by decide))
  refine ⟨?_, ?_⟩
  · exact dd_X7_nameLength (by rw [f.kI (a := 9) (j := 1) hk9 (by decide) (by decide)]; exact h9)
  intro a7_43 ea7_43 
  have ga7_43 := congrArg Int32.toInt ea7_43
  refine ⟨?_, ?_⟩
  · exact dd_X7_nameSign
  refine ⟨fun c44_ => ?_, fun c44_ => ?_⟩
  · refine ⟨?_, ?_⟩
    · exact dd_X7_kindOfPart (by rw [f.kI (a := 9) (j := 1) hk9 (by decide) (by decide)]; exact h9)
    intro a15_45 ea15_45 
    have ga15_45 := congrArg Int32.toInt ea15_45
    refine ⟨(2147483648 - (1 : Int32).toInt).toNat + 1, ?_⟩
    refine sf_X7_isMethodType_L44 h9 hk9 _ f ?_ ?_
    · have n1_ := rgI a7_43
      have n2_ := rgI (fX7_nameLength S3_42 x1)
      have n3_ := rgI (fX7_nameSign S3_42 x1 (0 : Int32))
      have n4_ := rgI a15_45
      have n5_ := rgI (fX7_kindOfPart S3_42 x1 (1 : Int32))
      have := rg_nl (S := S3_42) (x := x1)
      omega
    · have n1_ := li_1k
      have n2_ := rgI a7_43
      have n3_ := rgI (fX7_nameLength S3_42 x1)
      have n4_ := rgI (fX7_nameSign S3_42 x1 (0 : Int32))
      have n5_ := rgI a15_45
      have n6_ := rgI (fX7_kindOfPart S3_42 x1 (1 : Int32))
      have := rg_nl (S := S3_42) (x := x1)
      omega
  · exact trivial
set_option maxRecDepth 100000 in
theorem sf_X7_isSameName_L25 {S0 : MS} (h9 : 0 ≤ (qI S0 9 1).toInt) (hk9 : qT S0 9 = 46) : ∀ (n : Nat) {U25 : MS} {v25_3 : Int32} {v25_4 : Int32} {v25_5 : Int32} {v25_6 : Int32}, cfr [] [] S0 U25 → 2147483648 - v25_6.toInt < n → w_X7_isSameName_L25 (fun _ _ => True) n U25 v25_3 v25_4 v25_5 v25_6 := by
  intro n
  induction n with
  | zero => intro U25 v25_3 v25_4 v25_5 v25_6 f  hm_; exfalso; have := rgI v25_3; have := rgI v25_4; have := rgI v25_5; have := rgI v25_6; omega
  | succ n ih25 =>
    intro U25 v25_3 v25_4 v25_5 v25_6 f  hm_
    unfold w_X7_isSameName_L25
    intro y1_
    refine ⟨fun c0_ => ?_, fun c0_ => ?_⟩
    · exact trivial
    · refine ⟨?_, ?_⟩
      · exact dd_X7_u1
      refine ⟨?_, ?_⟩
      · exact dd_X7_u1
      refine ⟨fun c1_ => ?_, fun c1_ => ?_⟩
      · intro a25_2 ea25_2 
        have ga25_2 := congrArg Int32.toInt ea25_2
        refine ih25 f  ?_
        · have n1_ := rgI a25_2
          have n2_ := rgI v25_6
          have n4_ := li_3k
          have n5_ := rgI v25_5
          have n5_ := t_addD (a := (3 : Int32)) (b := v25_5)
          have n6_ := rgI ((3 : Int32) + v25_5)
          have n7_ := rgI (fX7_u1 U25 (v25_3 + v25_6))
          have n8_ := rgI (fX7_u1 U25 (v25_4 + v25_6))
          have n10_ := lo_1k
          have n10_ := t_addD (a := v25_6) (b := Int32.ofInt 1)
          have n11_ := rgI (v25_6 + Int32.ofInt 1)
          omega
      · exact trivial
set_option maxRecDepth 100000 in
theorem sfX7_isSameName {S : MS} {x1 : Int32} {x2 : Int32} (hw : wfC S) (h9 : 0 ≤ (qI S 9 1).toInt) (hk9 : qT S 9 = 46) : wX7_isSameName S x1 x2 (fun _ _ => True) := by
  have f : cfr [] [] S S := cfr.rf
  unfold wX7_isSameName
  refine ⟨?_, ?_⟩
  · exact dd_X7_entryAt
  intro a4_3 ea4_3 
  have ga4_3 := congrArg Int32.toInt ea4_3
  refine ⟨?_, ?_⟩
  · exact dd_X7_entryAt
  intro a8_4 ea8_4 
  have ga8_4 := congrArg Int32.toInt ea8_4
  refine ⟨?_, ?_⟩
  · exact dd_X7_u2 (by rw [f.kI (a := 9) (j := 1) hk9 (by decide) (by decide)]; exact h9)
  intro a13_5 ea13_5 
  have ga13_5 := congrArg Int32.toInt ea13_5
  refine ⟨(2147483648 - (1 : Int32).toInt).toNat + 1, ?_⟩
  refine sf_X7_isSameName_L25 h9 hk9 _ f  ?_
  · have n1_ := li_1k
    have n2_ := rgI a4_3
    have n3_ := rgI (fX7_entryAt S x1)
    have n4_ := rgI a8_4
    have n5_ := rgI (fX7_entryAt S x2)
    have n6_ := rgI a13_5
    have n7_ := rgI (fX7_u2 S (a4_3 + (1 : Int32)))
    omega
set_option maxRecDepth 100000 in
theorem sf_X7_noTwins_L34 {S0 : MS} {k2 : MS → Int32 → Prop} {N2 : Nat} (h9 : 0 ≤ (qI S0 9 1).toInt) (hk9 : qT S0 9 = 46) (hk2 : ∀ (U2 : MS) (v2_1 : Int32), cfr [] [(46, 2), (46, 3)] S0 U2 → 2147483648 - v2_1.toInt < N2 → k2 U2 v2_1) : ∀ (n : Nat) {U34 : MS} {v34_1 : Int32} {v34_3 : Int32}, cfr [] [(46, 2), (46, 3)] S0 U34 → v34_1.toInt < 2147483647 → 2147483648 - v34_1.toInt ≤ N2 → 2147483648 - v34_3.toInt < n → w_X7_noTwins_L34 (fun _ _ => True) k2 n U34 v34_1 v34_3 := by
  intro n
  induction n with
  | zero => intro U34 v34_1 v34_3 f j0_ j1_ hm_; exfalso; have := rgI v34_1; have := rgI v34_3; omega
  | succ n ih34 =>
    intro U34 v34_1 v34_3 f j0_ j1_ hm_
    unfold w_X7_noTwins_L34
    intro y1_
    refine ⟨fun c0_ => ?_, fun c0_ => ?_⟩
    · intro a4_1 ea4_1 
      have ga4_1 := congrArg Int32.toInt ea4_1
      refine hk2 _ _ f  ?_
      · have n1_ := rgI a4_1
        have n2_ := rgI v34_1
        have n3_ := rgI v34_3
        have n5_ := lo_1k
        have n5_ := t_addD (a := v34_1) (b := Int32.ofInt 1)
        have n6_ := rgI (v34_1 + Int32.ofInt 1)
        omega
    · refine ⟨?_, ?_⟩
      · exact dd_X7_nameOf (by rw [f.kI (a := 9) (j := 1) hk9 (by decide) (by decide)]; exact h9)
      intro a8_2 ea8_2 
      have ga8_2 := congrArg Int32.toInt ea8_2
      refine ⟨?_, ?_⟩
      · exact dd_X7_nameOf (by rw [f.kI (a := 9) (j := 1) hk9 (by decide) (by decide)]; exact h9)
      intro a12_3 ea12_3 
      have ga12_3 := congrArg Int32.toInt ea12_3
      refine ⟨_, frX7_isSameName y1_ (sfX7_isSameName y1_  (by rw [f.kI (a := 9) (j := 1) hk9 (by decide) (by decide)]; exact h9) (f.1.T hk9 (by decide))), ?_⟩
      intro r14_4 S15_4 q2_ y3_ y4_
      have f := f.tr (q2_.2.mo (by decide) (by decide))
      refine ⟨fun c5_ => ?_, fun c5_ => ?_⟩
      · intro a18_6 ea18_6 
        have ga18_6 := congrArg Int32.toInt ea18_6
        refine ih34 f ?_ ?_ ?_
        · have n1_ := rgI v34_1
          have n2_ := rgI v34_3
          have n3_ := rgI a8_2
          have n4_ := rgI (fX7_nameOf U34 v34_3)
          have n5_ := rgI a12_3
          have n6_ := rgI (fX7_nameOf U34 v34_1)
          have n7_ := rgI r14_4
          have n8_ := rgI a18_6
          have n10_ := lo_1k
          have n10_ := t_addD (a := v34_3) (b := Int32.ofInt 1)
          have n11_ := rgI (v34_3 + Int32.ofInt 1)
          omega
        · have n1_ := rgI v34_1
          have n2_ := rgI v34_3
          have n3_ := rgI a8_2
          have n4_ := rgI (fX7_nameOf U34 v34_3)
          have n5_ := rgI a12_3
          have n6_ := rgI (fX7_nameOf U34 v34_1)
          have n7_ := rgI r14_4
          have n8_ := rgI a18_6
          have n10_ := lo_1k
          have n10_ := t_addD (a := v34_3) (b := Int32.ofInt 1)
          have n11_ := rgI (v34_3 + Int32.ofInt 1)
          omega
        · have n1_ := rgI a18_6
          have n2_ := rgI v34_1
          have n3_ := rgI v34_3
          have n4_ := rgI a8_2
          have n5_ := rgI (fX7_nameOf U34 v34_3)
          have n6_ := rgI a12_3
          have n7_ := rgI (fX7_nameOf U34 v34_1)
          have n8_ := rgI r14_4
          have n10_ := lo_1k
          have n10_ := t_addD (a := v34_3) (b := Int32.ofInt 1)
          have n11_ := rgI (v34_3 + Int32.ofInt 1)
          omega
      · refine ⟨?_, ?_⟩
        · exact dd_X7_memberPlace
        intro a22_7 ea22_7 
        have ga22_7 := congrArg Int32.toInt ea22_7
        refine ⟨_, frX7_breaks y3_ (sfX7_breaks y3_ ), ?_⟩
        intro r25_8 S26_8 q5_ y6_ y7_
        have f := f.tr (q5_.2.mo (by decide) (by decide))
        exact trivial
set_option maxRecDepth 100000 in
theorem sf_X7_noTwins_L2 {S0 : MS} (h9 : 0 ≤ (qI S0 9 1).toInt) (hk9 : qT S0 9 = 46) : ∀ (n : Nat) {U2 : MS} {v2_1 : Int32}, cfr [] [(46, 2), (46, 3)] S0 U2 → 2147483648 - v2_1.toInt < n → w_X7_noTwins_L2 (fun _ _ => True) n U2 v2_1 := by
  intro n
  induction n with
  | zero => intro U2 v2_1 f  hm_; exfalso; have := rgI v2_1; omega
  | succ n ih2 =>
    intro U2 v2_1 f  hm_
    unfold w_X7_noTwins_L2
    intro y8_
    refine ⟨fun c9_ => ?_, fun c9_ => ?_⟩
    · exact trivial
    · refine ⟨fun c10_ => ?_, fun c10_ => ?_⟩
      · unfold w_X7_noTwins_J31
        intro y9_
        refine ⟨(2147483648 - (qI U2 9 7).toInt).toNat + 1, ?_⟩
        refine sf_X7_noTwins_L34 h9 hk9 (fun _ _ f_  hm_ => ih2 f_  hm_) _ f ?_ ?_ ?_
        · have n1_ := rgI v2_1
          have n3_ := rgI (qI U2 9 7)
          have n4_ := rgI (qI U2 9 8)
          have n4_ := t_addD (a := (qI U2 9 7)) (b := (qI U2 9 8))
          have n5_ := rgI ((qI U2 9 7) + (qI U2 9 8))
          omega
        · have n1_ := rgI v2_1
          have n3_ := rgI (qI U2 9 7)
          have n4_ := rgI (qI U2 9 8)
          have n4_ := t_addD (a := (qI U2 9 7)) (b := (qI U2 9 8))
          have n5_ := rgI ((qI U2 9 7) + (qI U2 9 8))
          omega
        · have n1_ := rgI (qI U2 9 7)
          have n2_ := rgI v2_1
          have n4_ := rgI (qI U2 9 8)
          have n4_ := t_addD (a := (qI U2 9 7)) (b := (qI U2 9 8))
          have n5_ := rgI ((qI U2 9 7) + (qI U2 9 8))
          omega
      · unfold w_X7_noTwins_J31
        intro y10_
        refine ⟨(2147483648 - (0 : Int32).toInt).toNat + 1, ?_⟩
        refine sf_X7_noTwins_L34 h9 hk9 (fun _ _ f_  hm_ => ih2 f_  hm_) _ f ?_ ?_ ?_
        · have n1_ := rgI v2_1
          have n3_ := rgI (qI U2 9 7)
          have n4_ := rgI (qI U2 9 8)
          have n4_ := t_addD (a := (qI U2 9 7)) (b := (qI U2 9 8))
          have n5_ := rgI ((qI U2 9 7) + (qI U2 9 8))
          omega
        · have n1_ := rgI v2_1
          have n3_ := rgI (qI U2 9 7)
          have n4_ := rgI (qI U2 9 8)
          have n4_ := t_addD (a := (qI U2 9 7)) (b := (qI U2 9 8))
          have n5_ := rgI ((qI U2 9 7) + (qI U2 9 8))
          omega
        · have n1_ := li_0k
          have n2_ := rgI v2_1
          have n4_ := rgI (qI U2 9 7)
          have n5_ := rgI (qI U2 9 8)
          have n5_ := t_addD (a := (qI U2 9 7)) (b := (qI U2 9 8))
          have n6_ := rgI ((qI U2 9 7) + (qI U2 9 8))
          omega
set_option maxRecDepth 100000 in
theorem sfX7_noTwins {S : MS} (hw : wfC S) (h9 : 0 ≤ (qI S 9 1).toInt) (hk9 : qT S 9 = 46) : wX7_noTwins S (fun _ _ => True) := by
  have f : cfr [] [(46, 2), (46, 3)] S S := cfr.rf
  unfold wX7_noTwins
  refine ⟨(2147483648 - (0 : Int32).toInt).toNat + 1, ?_⟩
  refine sf_X7_noTwins_L2 h9 hk9 _ f  ?_
  · have n1_ := li_0k
    omega
set_option maxRecDepth 100000 in
theorem sfX7_fileAttributesFit {S : MS} (hw : wfC S) (h9 : 0 ≤ (qI S 9 1).toInt) (hk9 : qT S 9 = 46) : wX7_fileAttributesFit S (fun _ _ => True) := by
  have f : cfr [] [(46, 2), (46, 3), (46, 15), (46, 16)] S S := cfr.rf
  unfold wX7_fileAttributesFit
  intro S1_0 eS1_0 y1_ y2_
  have f := f.tr (show cfr [] [(46, 2), (46, 3), (46, 15), (46, 16)] S S1_0 by rw [eS1_0]; exact cfr.oI y1_ (by decide))
  refine ⟨_, frX7_attributesFit y2_ (sfX7_attributesFit y2_  (by rw [f.kI (a := 9) (j := 1) hk9 (by decide) (by decide)]; exact h9) (f.1.T hk9 (by decide))), ?_⟩
  intro r3_1 S4_1 q3_ y4_ y5_
  have f := f.tr (q3_.2.mo (by decide) (by decide))
  exact trivial
theorem wfC.tlen {S : MS} {b : Nat} (w : wfC S) (e : qT S b = 12) : qN S (b + 1) ≤ 8388608 := by
  obtain ⟨i, hi, rfl⟩ := w.t12 b e
  exact w.ln _ (by rw [(w.tx6 i hi).2.1]; decide)
theorem sf_X7_isText_L16 {S0 : MS} (h9 : 0 ≤ (qI S0 9 1).toInt) (hk9 : qT S0 9 = 46) {p : Nat} : ∀ (n : Nat) {U16 : MS} {v16_1 v16_3 : Int32}, cfr [] [] S0 U16 → 0 ≤ v16_3.toInt → 2147483648 - v16_3.toInt < n → w_X7_isText_L16 (fun _ _ => True) n U16 v16_1 p v16_3 := by
  intro n
  induction n with
  | zero => intro U16 v16_1 v16_3 f h0 hm; exfalso; have := rgI v16_3; omega
  | succ n ih =>
    intro U16 v16_1 v16_3 f h0 hm
    unfold w_X7_isText_L16
    intro w k
    have hl := toI_len (w.tlen k)
    rw [hl]
    have h9u : 0 ≤ (qI U16 9 1).toInt := by rw [f.kI (a := 9) (j := 1) hk9 (by decide) (by decide)]; exact h9
    have hl8 := w.tlen k
    refine ⟨fun c => trivial, fun c => ⟨dd_X7_nameSign, ?_⟩⟩
    refine ⟨⟨h0, by omega⟩, fun c2 a e => ?_, fun c2 => trivial⟩
    have g := congrArg Int32.toInt e
    have n1 := lo_1k
    have n2 := t_addD (a := v16_3) (b := Int32.ofInt 1)
    exact ih f (by omega) (by omega)
theorem sfX7_isText {S : MS} {x1 : Int32} {p2 : Nat} (hw : wfC S) (h9 : 0 ≤ (qI S 9 1).toInt) (hk9 : qT S 9 = 46) (hp : qT S p2 = 12) : wX7_isText S x1 p2 (fun _ _ => True) := by
  unfold wX7_isText
  refine ⟨dd_X7_nameLength h9, ?_⟩
  repeat' first
    | exact trivial
    | (refine ⟨2147483649, sf_X7_isText_L16 h9 hk9 _ cfr.rf (by decide) (by rw [li_0k]; decide)⟩)
    | refine ⟨fun _ => ?_, fun _ => ?_⟩
    | intro _ _
set_option maxRecDepth 100000 in
theorem sf_X7_codesHold_L51 {S0 : MS} {k2 : MS → Int32 → Prop} {N2 : Nat} (h9 : 0 ≤ (qI S0 9 1).toInt) (hk9 : qT S0 9 = 46) (hk2 : ∀ (U2 : MS) (v2_1 : Int32), cfr [220, 221] [(46, 2), (46, 3)] S0 U2 → 0 ≤ v2_1.toInt → 2147483648 - v2_1.toInt < N2 → k2 U2 v2_1) : ∀ (n : Nat) {U51 : MS} {v51_1 : Int32} {v51_2 : Int32} {v51_3 : Int32} {v51_4 : Int32} {v51_5 : Int32} {v51_6 : Int32}, cfr [220, 221] [(46, 2), (46, 3)] S0 U51 → 0 ≤ v51_1.toInt → v51_1.toInt < 24 → 2147483648 - v51_1.toInt ≤ N2 → 2147483648 - v51_6.toInt < n → w_X7_codesHold_L51 (fun _ _ => True) k2 n U51 v51_1 v51_2 v51_3 v51_4 v51_5 v51_6 := by
  intro n
  induction n with
  | zero => intro U51 v51_1 v51_2 v51_3 v51_4 v51_5 v51_6 f j0_ j1_ j2_ hm_; exfalso; have := rgI v51_1; have := rgI v51_2; have := rgI v51_3; have := rgI v51_4; have := rgI v51_5; have := rgI v51_6; omega
  | succ n ih51 =>
    intro U51 v51_1 v51_2 v51_3 v51_4 v51_5 v51_6 f j0_ j1_ j2_ hm_
    unfold w_X7_codesHold_L51
    intro y1_
    refine ⟨fun c0_ => ?_, fun c0_ => ?_⟩
    · refine ⟨fun c1_ => ?_, fun c1_ => ?_⟩
      · intro a17_2 ea17_2 
        have ga17_2 := congrArg Int32.toInt ea17_2
        refine hk2 _ _ f ?_ ?_
        · have n1_ := rgI a17_2
          have n2_ := rgI v51_1
          have n3_ := rgI v51_6
          have n4_ := rgI v51_3
          have n5_ := rgI v51_5
          have n7_ := lo_1k
          have n7_ := t_addD (a := v51_1) (b := Int32.ofInt 1)
          have n8_ := rgI (v51_1 + Int32.ofInt 1)
          omega
        · have n1_ := rgI a17_2
          have n2_ := rgI v51_1
          have n3_ := rgI v51_6
          have n4_ := rgI v51_3
          have n5_ := rgI v51_5
          have n7_ := lo_1k
          have n7_ := t_addD (a := v51_1) (b := Int32.ofInt 1)
          have n8_ := rgI (v51_1 + Int32.ofInt 1)
          omega
      · refine ⟨_, frX7_breaks y1_ (sfX7_breaks y1_ ), ?_⟩
        intro r19_3 S20_3 q2_ y3_ y4_
        have f := f.tr (q2_.2.mo (by decide) (by decide))
        exact trivial
    · refine ⟨?_, ?_⟩
      · exact dd_X7_s4 (by rw [f.kI (a := 9) (j := 1) hk9 (by decide) (by decide)]; exact h9)
      intro a27_4 ea27_4 
      have ga27_4 := congrArg Int32.toInt ea27_4
      intro a29_5 ea29_5 
      have ga29_5 := congrArg Int32.toInt ea29_5
      refine ⟨?_, ?_⟩
      · exact dd_X7_u2 (by rw [f.kI (a := 9) (j := 1) hk9 (by decide) (by decide)]; exact h9)
      intro a33_6 ea33_6 
      have ga33_6 := congrArg Int32.toInt ea33_6
      intro y5_
      refine ⟨_, frX7_isText y1_ (sfX7_isText y1_  (by rw [f.kI (a := 9) (j := 1) hk9 (by decide) (by decide)]; exact h9) (f.1.T hk9 (by decide)) y5_), ?_⟩
      intro r36_7 S37_7 q6_ y7_ y8_
      have f := f.tr (q6_.2.mo (by decide) (by decide))
      refine ⟨fun c8_ => ?_, fun c8_ => ?_⟩
      · unfold w_X7_codesHold_J110
        intro y9_
        intro a39_9 ea39_9 
        have ga39_9 := congrArg Int32.toInt ea39_9
        refine ih51 f ?_ ?_ ?_ ?_
        · have n1_ := rgI v51_1
          have n2_ := rgI v51_6
          have n3_ := rgI v51_3
          have n4_ := rgI a27_4
          have n5_ := rgI (fX7_s4 U51 (v51_4 + (2 : Int32)))
          have n6_ := rgI a29_5
          have n9_ := rgI v51_4
          have n10_ := li_6k
          have n10_ := t_addD (a := v51_4) (b := (6 : Int32))
          have n11_ := rgI (v51_4 + (6 : Int32))
          have n11_ := t_addD (a := (v51_4 + (6 : Int32))) (b := a27_4)
          have n12_ := rgI ((v51_4 + (6 : Int32)) + a27_4)
          have n13_ := rgI a33_6
          have n14_ := rgI (fX7_u2 U51 v51_4)
          have n15_ := rgI r36_7
          have n16_ := rgI a39_9
          have n18_ := lo_1k
          have n18_ := t_addD (a := v51_6) (b := Int32.ofInt 1)
          have n19_ := rgI (v51_6 + Int32.ofInt 1)
          omega
        · have n1_ := rgI v51_1
          have n2_ := rgI v51_6
          have n3_ := rgI v51_3
          have n4_ := rgI a27_4
          have n5_ := rgI (fX7_s4 U51 (v51_4 + (2 : Int32)))
          have n6_ := rgI a29_5
          have n9_ := rgI v51_4
          have n10_ := li_6k
          have n10_ := t_addD (a := v51_4) (b := (6 : Int32))
          have n11_ := rgI (v51_4 + (6 : Int32))
          have n11_ := t_addD (a := (v51_4 + (6 : Int32))) (b := a27_4)
          have n12_ := rgI ((v51_4 + (6 : Int32)) + a27_4)
          have n13_ := rgI a33_6
          have n14_ := rgI (fX7_u2 U51 v51_4)
          have n15_ := rgI r36_7
          have n16_ := rgI a39_9
          have n18_ := lo_1k
          have n18_ := t_addD (a := v51_6) (b := Int32.ofInt 1)
          have n19_ := rgI (v51_6 + Int32.ofInt 1)
          omega
        · have n1_ := rgI v51_1
          have n2_ := rgI v51_6
          have n3_ := rgI v51_3
          have n4_ := rgI a27_4
          have n5_ := rgI (fX7_s4 U51 (v51_4 + (2 : Int32)))
          have n6_ := rgI a29_5
          have n9_ := rgI v51_4
          have n10_ := li_6k
          have n10_ := t_addD (a := v51_4) (b := (6 : Int32))
          have n11_ := rgI (v51_4 + (6 : Int32))
          have n11_ := t_addD (a := (v51_4 + (6 : Int32))) (b := a27_4)
          have n12_ := rgI ((v51_4 + (6 : Int32)) + a27_4)
          have n13_ := rgI a33_6
          have n14_ := rgI (fX7_u2 U51 v51_4)
          have n15_ := rgI r36_7
          have n16_ := rgI a39_9
          have n18_ := lo_1k
          have n18_ := t_addD (a := v51_6) (b := Int32.ofInt 1)
          have n19_ := rgI (v51_6 + Int32.ofInt 1)
          omega
        · have n1_ := rgI a39_9
          have n2_ := rgI v51_1
          have n3_ := rgI v51_6
          have n4_ := rgI v51_3
          have n5_ := rgI a27_4
          have n6_ := rgI (fX7_s4 U51 (v51_4 + (2 : Int32)))
          have n7_ := rgI a29_5
          have n10_ := rgI v51_4
          have n11_ := li_6k
          have n11_ := t_addD (a := v51_4) (b := (6 : Int32))
          have n12_ := rgI (v51_4 + (6 : Int32))
          have n12_ := t_addD (a := (v51_4 + (6 : Int32))) (b := a27_4)
          have n13_ := rgI ((v51_4 + (6 : Int32)) + a27_4)
          have n14_ := rgI a33_6
          have n15_ := rgI (fX7_u2 U51 v51_4)
          have n16_ := rgI r36_7
          have n18_ := lo_1k
          have n18_ := t_addD (a := v51_6) (b := Int32.ofInt 1)
          have n19_ := rgI (v51_6 + Int32.ofInt 1)
          omega
      · intro a41_10 ea41_10 
        have ga41_10 := congrArg Int32.toInt ea41_10
        refine ⟨?_, ?_⟩
        · have n1_ := rgI v51_1
          have n2_ := rgI v51_6
          have n3_ := rgI v51_3
          have n4_ := rgI a27_4
          have n5_ := rgI (fX7_s4 U51 (v51_4 + (2 : Int32)))
          have n6_ := rgI a29_5
          have n9_ := rgI v51_4
          have n10_ := li_6k
          have n10_ := t_addD (a := v51_4) (b := (6 : Int32))
          have n11_ := rgI (v51_4 + (6 : Int32))
          have n11_ := t_addD (a := (v51_4 + (6 : Int32))) (b := a27_4)
          have n12_ := rgI ((v51_4 + (6 : Int32)) + a27_4)
          have n13_ := rgI a33_6
          have n14_ := rgI (fX7_u2 U51 v51_4)
          have n15_ := rgI r36_7
          have n16_ := rgI a41_10
          have n18_ := rgI v51_5
          have n19_ := lo_1k
          have n19_ := t_addD (a := v51_5) (b := Int32.ofInt 1)
          have n20_ := rgI (v51_5 + Int32.ofInt 1)
          omega
        intro S44_11 eS44_11 y10_ y11_
        have f := f.tr (show cfr [220, 221] [(46, 2), (46, 3)] S37_7 S44_11 by rw [eS44_11]; exact cfr.aI y10_ (by decide))
        refine ⟨?_, ?_⟩
        · have n1_ := rgI v51_1
          have n2_ := rgI v51_6
          have n3_ := rgI v51_3
          have n4_ := rgI a27_4
          have n5_ := rgI (fX7_s4 U51 (v51_4 + (2 : Int32)))
          have n6_ := rgI a29_5
          have n9_ := rgI v51_4
          have n10_ := li_6k
          have n10_ := t_addD (a := v51_4) (b := (6 : Int32))
          have n11_ := rgI (v51_4 + (6 : Int32))
          have n11_ := t_addD (a := (v51_4 + (6 : Int32))) (b := a27_4)
          have n12_ := rgI ((v51_4 + (6 : Int32)) + a27_4)
          have n13_ := rgI a33_6
          have n14_ := rgI (fX7_u2 U51 v51_4)
          have n15_ := rgI r36_7
          have n16_ := rgI a41_10
          have n18_ := rgI v51_5
          have n19_ := lo_1k
          have n19_ := t_addD (a := v51_5) (b := Int32.ofInt 1)
          have n20_ := rgI (v51_5 + Int32.ofInt 1)
          omega
        intro S46_12 eS46_12 y12_ y13_
        have f := f.tr (show cfr [220, 221] [(46, 2), (46, 3)] S44_11 S46_12 by rw [eS46_12]; exact cfr.aI y12_ (by decide))
        unfold w_X7_codesHold_J110
        intro y14_
        intro a39_13 ea39_13 
        have ga39_13 := congrArg Int32.toInt ea39_13
        refine ih51 f ?_ ?_ ?_ ?_
        · have n1_ := rgI v51_1
          have n2_ := rgI v51_6
          have n3_ := rgI v51_3
          have n4_ := rgI a27_4
          have n5_ := rgI (fX7_s4 U51 (v51_4 + (2 : Int32)))
          have n6_ := rgI a29_5
          have n9_ := rgI v51_4
          have n10_ := li_6k
          have n10_ := t_addD (a := v51_4) (b := (6 : Int32))
          have n11_ := rgI (v51_4 + (6 : Int32))
          have n11_ := t_addD (a := (v51_4 + (6 : Int32))) (b := a27_4)
          have n12_ := rgI ((v51_4 + (6 : Int32)) + a27_4)
          have n13_ := rgI a33_6
          have n14_ := rgI (fX7_u2 U51 v51_4)
          have n15_ := rgI r36_7
          have n16_ := rgI a41_10
          have n18_ := rgI v51_5
          have n19_ := lo_1k
          have n19_ := t_addD (a := v51_5) (b := Int32.ofInt 1)
          have n20_ := rgI (v51_5 + Int32.ofInt 1)
          have n21_ := rgI a39_13
          have n22_ := t_addD (a := v51_6) (b := Int32.ofInt 1)
          have n23_ := rgI (v51_6 + Int32.ofInt 1)
          omega
        · have n1_ := rgI v51_1
          have n2_ := rgI v51_6
          have n3_ := rgI v51_3
          have n4_ := rgI a27_4
          have n5_ := rgI (fX7_s4 U51 (v51_4 + (2 : Int32)))
          have n6_ := rgI a29_5
          have n9_ := rgI v51_4
          have n10_ := li_6k
          have n10_ := t_addD (a := v51_4) (b := (6 : Int32))
          have n11_ := rgI (v51_4 + (6 : Int32))
          have n11_ := t_addD (a := (v51_4 + (6 : Int32))) (b := a27_4)
          have n12_ := rgI ((v51_4 + (6 : Int32)) + a27_4)
          have n13_ := rgI a33_6
          have n14_ := rgI (fX7_u2 U51 v51_4)
          have n15_ := rgI r36_7
          have n16_ := rgI a41_10
          have n18_ := rgI v51_5
          have n19_ := lo_1k
          have n19_ := t_addD (a := v51_5) (b := Int32.ofInt 1)
          have n20_ := rgI (v51_5 + Int32.ofInt 1)
          have n21_ := rgI a39_13
          have n22_ := t_addD (a := v51_6) (b := Int32.ofInt 1)
          have n23_ := rgI (v51_6 + Int32.ofInt 1)
          omega
        · have n1_ := rgI v51_1
          have n2_ := rgI v51_6
          have n3_ := rgI v51_3
          have n4_ := rgI a27_4
          have n5_ := rgI (fX7_s4 U51 (v51_4 + (2 : Int32)))
          have n6_ := rgI a29_5
          have n9_ := rgI v51_4
          have n10_ := li_6k
          have n10_ := t_addD (a := v51_4) (b := (6 : Int32))
          have n11_ := rgI (v51_4 + (6 : Int32))
          have n11_ := t_addD (a := (v51_4 + (6 : Int32))) (b := a27_4)
          have n12_ := rgI ((v51_4 + (6 : Int32)) + a27_4)
          have n13_ := rgI a33_6
          have n14_ := rgI (fX7_u2 U51 v51_4)
          have n15_ := rgI r36_7
          have n16_ := rgI a41_10
          have n18_ := rgI v51_5
          have n19_ := lo_1k
          have n19_ := t_addD (a := v51_5) (b := Int32.ofInt 1)
          have n20_ := rgI (v51_5 + Int32.ofInt 1)
          have n21_ := rgI a39_13
          have n22_ := t_addD (a := v51_6) (b := Int32.ofInt 1)
          have n23_ := rgI (v51_6 + Int32.ofInt 1)
          omega
        · have n1_ := rgI a39_13
          have n2_ := rgI v51_1
          have n3_ := rgI v51_6
          have n4_ := rgI v51_3
          have n5_ := rgI a27_4
          have n6_ := rgI (fX7_s4 U51 (v51_4 + (2 : Int32)))
          have n7_ := rgI a29_5
          have n10_ := rgI v51_4
          have n11_ := li_6k
          have n11_ := t_addD (a := v51_4) (b := (6 : Int32))
          have n12_ := rgI (v51_4 + (6 : Int32))
          have n12_ := t_addD (a := (v51_4 + (6 : Int32))) (b := a27_4)
          have n13_ := rgI ((v51_4 + (6 : Int32)) + a27_4)
          have n14_ := rgI a33_6
          have n15_ := rgI (fX7_u2 U51 v51_4)
          have n16_ := rgI r36_7
          have n17_ := rgI a41_10
          have n19_ := rgI v51_5
          have n20_ := lo_1k
          have n20_ := t_addD (a := v51_5) (b := Int32.ofInt 1)
          have n21_ := rgI (v51_5 + Int32.ofInt 1)
          have n22_ := t_addD (a := v51_6) (b := Int32.ofInt 1)
          have n23_ := rgI (v51_6 + Int32.ofInt 1)
          omega
set_option maxRecDepth 100000 in
theorem sf_X7_codesHold_L2 {S0 : MS} (h9 : 0 ≤ (qI S0 9 1).toInt) (hk9 : qT S0 9 = 46) : ∀ (n : Nat) {U2 : MS} {v2_1 : Int32}, cfr [220, 221] [(46, 2), (46, 3)] S0 U2 → 0 ≤ v2_1.toInt → 2147483648 - v2_1.toInt < n → w_X7_codesHold_L2 (fun _ _ => True) n U2 v2_1 := by
  intro n
  induction n with
  | zero => intro U2 v2_1 f j0_ hm_; exfalso; have := rgI v2_1; omega
  | succ n ih2 =>
    intro U2 v2_1 f j0_ hm_
    unfold w_X7_codesHold_L2
    intro y15_
    refine ⟨fun c14_ => ?_, fun c14_ => ?_⟩
    · exact trivial
    · refine ⟨fun c15_ => ?_, fun c15_ => ?_⟩
      · exact trivial
      · refine ⟨?_, ?_⟩
        · exact dd_X7_memberPlace
        intro a7_16 ea7_16 
        have ga7_16 := congrArg Int32.toInt ea7_16
        refine ⟨?_, ?_⟩
        · exact dd_X7_u2 (by rw [f.kI (a := 9) (j := 1) hk9 (by decide) (by decide)]; exact h9)
        intro a12_17 ea12_17 
        have ga12_17 := congrArg Int32.toInt ea12_17
        intro a14_18 ea14_18 
        have ga14_18 := congrArg Int32.toInt ea14_18
        refine ⟨(2147483648 - (0 : Int32).toInt).toNat + 1, ?_⟩
        refine sf_X7_codesHold_L51 h9 hk9 (fun _ _ f_ i0_ hm_ => ih2 f_ i0_ hm_) _ f ?_ ?_ ?_ ?_
        · have n1_ := rgI v2_1
          have n2_ := rgI (qI U2 9 8)
          have n3_ := rgI a7_16
          have n4_ := rgI (fX7_memberPlace U2 ((qI U2 9 7) + v2_1))
          have n5_ := rgI a12_17
          have n6_ := rgI (fX7_u2 U2 (a7_16 + (6 : Int32)))
          have n7_ := rgI a14_18
          have n9_ := li_8k
          have n9_ := t_addD (a := a7_16) (b := (8 : Int32))
          have n10_ := rgI (a7_16 + (8 : Int32))
          omega
        · have n1_ := rgI v2_1
          have n2_ := rgI (qI U2 9 8)
          have n3_ := rgI a7_16
          have n4_ := rgI (fX7_memberPlace U2 ((qI U2 9 7) + v2_1))
          have n5_ := rgI a12_17
          have n6_ := rgI (fX7_u2 U2 (a7_16 + (6 : Int32)))
          have n7_ := rgI a14_18
          have n9_ := li_8k
          have n9_ := t_addD (a := a7_16) (b := (8 : Int32))
          have n10_ := rgI (a7_16 + (8 : Int32))
          omega
        · have n1_ := rgI v2_1
          have n2_ := rgI (qI U2 9 8)
          have n3_ := rgI a7_16
          have n4_ := rgI (fX7_memberPlace U2 ((qI U2 9 7) + v2_1))
          have n5_ := rgI a12_17
          have n6_ := rgI (fX7_u2 U2 (a7_16 + (6 : Int32)))
          have n7_ := rgI a14_18
          have n9_ := li_8k
          have n9_ := t_addD (a := a7_16) (b := (8 : Int32))
          have n10_ := rgI (a7_16 + (8 : Int32))
          omega
        · have n1_ := li_0k
          have n2_ := rgI v2_1
          have n3_ := rgI (qI U2 9 8)
          have n4_ := rgI a7_16
          have n5_ := rgI (fX7_memberPlace U2 ((qI U2 9 7) + v2_1))
          have n6_ := rgI a12_17
          have n7_ := rgI (fX7_u2 U2 (a7_16 + (6 : Int32)))
          have n8_ := rgI a14_18
          have n10_ := li_8k
          have n10_ := t_addD (a := a7_16) (b := (8 : Int32))
          have n11_ := rgI (a7_16 + (8 : Int32))
          omega
set_option maxRecDepth 100000 in
theorem sfX7_codesHold {S : MS} (hw : wfC S) (h9 : 0 ≤ (qI S 9 1).toInt) (hk9 : qT S 9 = 46) : wX7_codesHold S (fun _ _ => True) := by
  have f : cfr [220, 221] [(46, 2), (46, 3)] S S := cfr.rf
  unfold wX7_codesHold
  refine ⟨(2147483648 - (0 : Int32).toInt).toNat + 1, ?_⟩
  refine sf_X7_codesHold_L2 h9 hk9 _ f ?_ ?_
  · have n1_ := li_0k
    omega
  · have n1_ := li_0k
    omega
set_option maxRecDepth 100000 in
theorem sf_X7_typesHold_L80 {S0 : MS} (h9 : 0 ≤ (qI S0 9 1).toInt) (hk9 : qT S0 9 = 46) : ∀ (n : Nat) {U80 : MS} {v80_1 : Int32}, cfr [] [(46, 2), (46, 3), (46, 12), (46, 13), (46, 14)] S0 U80 → 2147483648 - v80_1.toInt < n → w_X7_typesHold_L80 (fun _ _ => True) n U80 v80_1 := by
  intro n
  induction n with
  | zero => intro U80 v80_1 f  hm_; exfalso; have := rgI v80_1; omega
  | succ n ih80 =>
    intro U80 v80_1 f  hm_
    unfold w_X7_typesHold_L80
    intro y1_
    refine ⟨fun c0_ => ?_, fun c0_ => ?_⟩
    · exact trivial
    · refine ⟨fun c1_ => ?_, fun c1_ => ?_⟩
      · refine ⟨?_, ?_⟩
        · exact dd_X7_typeOf (by rw [f.kI (a := 9) (j := 1) hk9 (by decide) (by decide)]; exact h9)
        intro a19_2 ea19_2 
        have ga19_2 := congrArg Int32.toInt ea19_2
        refine ⟨_, frX7_isMethodType y1_ (sfX7_isMethodType y1_  (by rw [f.kI (a := 9) (j := 1) hk9 (by decide) (by decide)]; exact h9) (f.1.T hk9 (by decide))), ?_⟩
        intro r21_3 S22_3 q2_ y3_ y4_
        have f := f.tr (q2_.2.mo (by decide) (by decide))
        refine ⟨fun c4_ => ?_, fun c4_ => ?_⟩
        · unfold w_X7_typesHold_J146
          intro y5_
          unfold w_X7_typesHold_J147
          intro y6_ y7_
          refine ⟨fun c5_ => ?_, fun c5_ => ?_⟩
          · refine ⟨?_, ?_⟩
            · exact dd_X7_memberPlace
            intro a9_6 ea9_6 
            have ga9_6 := congrArg Int32.toInt ea9_6
            refine ⟨_, frX7_breaks y6_ (sfX7_breaks y6_ ), ?_⟩
            intro r12_7 S13_7 q8_ y9_ y10_
            have f := f.tr (q8_.2.mo (by decide) (by decide))
            exact trivial
          · intro a5_8 ea5_8 
            have ga5_8 := congrArg Int32.toInt ea5_8
            refine ih80 f  ?_
            · have n1_ := rgI a5_8
              have n2_ := rgI v80_1
              have n4_ := rgI (qI U80 9 7)
              have n5_ := rgI (qI U80 9 8)
              have n5_ := t_addD (a := (qI U80 9 7)) (b := (qI U80 9 8))
              have n6_ := rgI ((qI U80 9 7) + (qI U80 9 8))
              have n7_ := rgI a19_2
              have n8_ := rgI (fX7_typeOf U80 v80_1)
              have n9_ := rgI r21_3
              have n10_ := li_0k
              have n12_ := lo_1k
              have n12_ := t_addD (a := v80_1) (b := Int32.ofInt 1)
              have n13_ := rgI (v80_1 + Int32.ofInt 1)
              omega
        · refine ⟨fun c9_ => ?_, fun c9_ => ?_⟩
          · unfold w_X7_typesHold_J146
            intro y11_
            unfold w_X7_typesHold_J147
            intro y12_ y13_
            refine ⟨fun c10_ => ?_, fun c10_ => ?_⟩
            · refine ⟨?_, ?_⟩
              · exact dd_X7_memberPlace
              intro a9_11 ea9_11 
              have ga9_11 := congrArg Int32.toInt ea9_11
              refine ⟨_, frX7_breaks y12_ (sfX7_breaks y12_ ), ?_⟩
              intro r12_12 S13_12 q14_ y15_ y16_
              have f := f.tr (q14_.2.mo (by decide) (by decide))
              exact trivial
            · intro a5_13 ea5_13 
              have ga5_13 := congrArg Int32.toInt ea5_13
              refine ih80 f  ?_
              · have n1_ := rgI a5_13
                have n2_ := rgI v80_1
                have n4_ := rgI (qI U80 9 7)
                have n5_ := rgI (qI U80 9 8)
                have n5_ := t_addD (a := (qI U80 9 7)) (b := (qI U80 9 8))
                have n6_ := rgI ((qI U80 9 7) + (qI U80 9 8))
                have n7_ := rgI a19_2
                have n8_ := rgI (fX7_typeOf U80 v80_1)
                have n9_ := rgI r21_3
                have n10_ := rgI (qI S22_3 9 13)
                have n11_ := li_0k
                have n13_ := lo_1k
                have n13_ := t_addD (a := v80_1) (b := Int32.ofInt 1)
                have n14_ := rgI (v80_1 + Int32.ofInt 1)
                omega
          · unfold w_X7_typesHold_J147
            intro y17_ y18_
            refine ⟨fun c14_ => ?_, fun c14_ => ?_⟩
            · refine ⟨?_, ?_⟩
              · exact dd_X7_memberPlace
              intro a9_15 ea9_15 
              have ga9_15 := congrArg Int32.toInt ea9_15
              refine ⟨_, frX7_breaks y17_ (sfX7_breaks y17_ ), ?_⟩
              intro r12_16 S13_16 q19_ y20_ y21_
              have f := f.tr (q19_.2.mo (by decide) (by decide))
              exact trivial
            · intro a5_17 ea5_17 
              have ga5_17 := congrArg Int32.toInt ea5_17
              refine ih80 f  ?_
              · have n1_ := rgI a5_17
                have n2_ := rgI v80_1
                have n4_ := rgI (qI U80 9 7)
                have n5_ := rgI (qI U80 9 8)
                have n5_ := t_addD (a := (qI U80 9 7)) (b := (qI U80 9 8))
                have n6_ := rgI ((qI U80 9 7) + (qI U80 9 8))
                have n7_ := rgI a19_2
                have n8_ := rgI (fX7_typeOf U80 v80_1)
                have n9_ := rgI r21_3
                have n10_ := rgI (qI S22_3 9 13)
                have n11_ := li_1k
                have n13_ := lo_1k
                have n13_ := t_addD (a := v80_1) (b := Int32.ofInt 1)
                have n14_ := rgI (v80_1 + Int32.ofInt 1)
                omega
      · refine ⟨?_, ?_⟩
        · exact dd_X7_typeOf (by rw [f.kI (a := 9) (j := 1) hk9 (by decide) (by decide)]; exact h9)
        intro a29_18 ea29_18 
        have ga29_18 := congrArg Int32.toInt ea29_18
        refine ⟨?_, ?_⟩
        · exact dd_X7_kindOfType (by rw [f.kI (a := 9) (j := 1) hk9 (by decide) (by decide)]; exact h9)
        intro a33_19 ea33_19 
        have ga33_19 := congrArg Int32.toInt ea33_19
        refine ⟨fun c20_ => ?_, fun c20_ => ?_⟩
        · unfold w_X7_typesHold_J147
          intro y22_ y23_
          refine ⟨fun c21_ => ?_, fun c21_ => ?_⟩
          · refine ⟨?_, ?_⟩
            · exact dd_X7_memberPlace
            intro a9_22 ea9_22 
            have ga9_22 := congrArg Int32.toInt ea9_22
            refine ⟨_, frX7_breaks y22_ (sfX7_breaks y22_ ), ?_⟩
            intro r12_23 S13_23 q24_ y25_ y26_
            have f := f.tr (q24_.2.mo (by decide) (by decide))
            exact trivial
          · intro a5_24 ea5_24 
            have ga5_24 := congrArg Int32.toInt ea5_24
            refine ih80 f  ?_
            · have n1_ := rgI a5_24
              have n2_ := rgI v80_1
              have n4_ := rgI (qI U80 9 7)
              have n5_ := rgI (qI U80 9 8)
              have n5_ := t_addD (a := (qI U80 9 7)) (b := (qI U80 9 8))
              have n6_ := rgI ((qI U80 9 7) + (qI U80 9 8))
              have n7_ := rgI a29_18
              have n8_ := rgI (fX7_typeOf U80 v80_1)
              have n9_ := rgI a33_19
              have n10_ := rgI (fX7_kindOfType U80 a29_18)
              have n11_ := li_0k
              have n13_ := lo_1k
              have n13_ := t_addD (a := v80_1) (b := Int32.ofInt 1)
              have n14_ := rgI (v80_1 + Int32.ofInt 1)
              omega
        · unfold w_X7_typesHold_J147
          intro y27_ y28_
          refine ⟨fun c25_ => ?_, fun c25_ => ?_⟩
          · refine ⟨?_, ?_⟩
            · exact dd_X7_memberPlace
            intro a9_26 ea9_26 
            have ga9_26 := congrArg Int32.toInt ea9_26
            refine ⟨_, frX7_breaks y27_ (sfX7_breaks y27_ ), ?_⟩
            intro r12_27 S13_27 q29_ y30_ y31_
            have f := f.tr (q29_.2.mo (by decide) (by decide))
            exact trivial
          · intro a5_28 ea5_28 
            have ga5_28 := congrArg Int32.toInt ea5_28
            refine ih80 f  ?_
            · have n1_ := rgI a5_28
              have n2_ := rgI v80_1
              have n4_ := rgI (qI U80 9 7)
              have n5_ := rgI (qI U80 9 8)
              have n5_ := t_addD (a := (qI U80 9 7)) (b := (qI U80 9 8))
              have n6_ := rgI ((qI U80 9 7) + (qI U80 9 8))
              have n7_ := rgI a29_18
              have n8_ := rgI (fX7_typeOf U80 v80_1)
              have n9_ := rgI a33_19
              have n10_ := rgI (fX7_kindOfType U80 a29_18)
              have n11_ := li_1k
              have n13_ := lo_1k
              have n13_ := t_addD (a := v80_1) (b := Int32.ofInt 1)
              have n14_ := rgI (v80_1 + Int32.ofInt 1)
              omega
set_option maxRecDepth 100000 in
theorem sf_X7_typesHold_L2 {S0 : MS} (h9 : 0 ≤ (qI S0 9 1).toInt) (hk9 : qT S0 9 = 46) : ∀ (n : Nat) {U2 : MS} {v2_1 : Int32}, cfr [] [(46, 2), (46, 3), (46, 12), (46, 13), (46, 14)] S0 U2 → 2147483648 - v2_1.toInt < n → w_X7_typesHold_L2 (fun _ _ => True) n U2 v2_1 := by
  intro n
  induction n with
  | zero => intro U2 v2_1 f  hm_; exfalso; have := rgI v2_1; omega
  | succ n ih2 =>
    intro U2 v2_1 f  hm_
    unfold w_X7_typesHold_L2
    intro y32_
    refine ⟨fun c29_ => ?_, fun c29_ => ?_⟩
    · refine ⟨(2147483648 - (0 : Int32).toInt).toNat + 1, ?_⟩
      refine sf_X7_typesHold_L80 h9 hk9 _ f  ?_
      · have n1_ := li_0k
        have n2_ := rgI v2_1
        have n3_ := rgI (qI U2 9 5)
        omega
    · refine ⟨?_, ?_⟩
      · exact dd_X7_tagOf
      intro a38_30 ea38_30 
      have ga38_30 := congrArg Int32.toInt ea38_30
      refine ⟨fun c31_ => ?_, fun c31_ => ?_⟩
      · refine ⟨?_, ?_⟩
        · exact dd_X7_secondOf (by rw [f.kI (a := 9) (j := 1) hk9 (by decide) (by decide)]; exact h9)
        intro a66_32 ea66_32 
        have ga66_32 := congrArg Int32.toInt ea66_32
        refine ⟨?_, ?_⟩
        · exact dd_X7_secondOf (by rw [f.kI (a := 9) (j := 1) hk9 (by decide) (by decide)]; exact h9)
        intro a70_33 ea70_33 
        have ga70_33 := congrArg Int32.toInt ea70_33
        refine ⟨?_, ?_⟩
        · exact dd_X7_kindOfType (by rw [f.kI (a := 9) (j := 1) hk9 (by decide) (by decide)]; exact h9)
        intro a74_34 ea74_34 
        have ga74_34 := congrArg Int32.toInt ea74_34
        refine ⟨fun c35_ => ?_, fun c35_ => ?_⟩
        · unfold w_X7_typesHold_J60
          intro y33_
          refine ⟨?_, ?_⟩
          · exact dd_X7_entryAt
          intro a42_36 ea42_36 
          have ga42_36 := congrArg Int32.toInt ea42_36
          refine ⟨_, frX7_breaks y33_ (sfX7_breaks y33_ ), ?_⟩
          intro r44_37 S45_37 q34_ y35_ y36_
          have f := f.tr (q34_.2.mo (by decide) (by decide))
          exact trivial
        · unfold w_X7_typesHold_J38
          intro y37_
          refine ⟨fun c38_ => ?_, fun c38_ => ?_⟩
          · refine ⟨?_, ?_⟩
            · exact dd_X7_secondOf (by rw [f.kI (a := 9) (j := 1) hk9 (by decide) (by decide)]; exact h9)
            intro a52_39 ea52_39 
            have ga52_39 := congrArg Int32.toInt ea52_39
            refine ⟨?_, ?_⟩
            · exact dd_X7_secondOf (by rw [f.kI (a := 9) (j := 1) hk9 (by decide) (by decide)]; exact h9)
            intro a56_40 ea56_40 
            have ga56_40 := congrArg Int32.toInt ea56_40
            refine ⟨_, frX7_isMethodType y37_ (sfX7_isMethodType y37_  (by rw [f.kI (a := 9) (j := 1) hk9 (by decide) (by decide)]; exact h9) (f.1.T hk9 (by decide))), ?_⟩
            intro r58_41 S59_41 q38_ y39_ y40_
            have f := f.tr (q38_.2.mo (by decide) (by decide))
            refine ⟨fun c42_ => ?_, fun c42_ => ?_⟩
            · unfold w_X7_typesHold_J60
              intro y41_
              refine ⟨?_, ?_⟩
              · exact dd_X7_entryAt
              intro a42_43 ea42_43 
              have ga42_43 := congrArg Int32.toInt ea42_43
              refine ⟨_, frX7_breaks y41_ (sfX7_breaks y41_ ), ?_⟩
              intro r44_44 S45_44 q42_ y43_ y44_
              have f := f.tr (q42_.2.mo (by decide) (by decide))
              exact trivial
            · unfold w_X7_typesHold_J72
              intro y45_
              intro a47_45 ea47_45 
              have ga47_45 := congrArg Int32.toInt ea47_45
              refine ih2 f  ?_
              · have n1_ := rgI a47_45
                have n2_ := rgI v2_1
                have n3_ := rgI (qI U2 9 5)
                have n4_ := rgI a38_30
                have n5_ := rgI (fX7_tagOf U2 v2_1)
                have n6_ := rgI a66_32
                have n7_ := rgI (fX7_secondOf U2 v2_1)
                have n8_ := rgI a70_33
                have n9_ := rgI (fX7_secondOf U2 a66_32)
                have n10_ := rgI a74_34
                have n11_ := rgI (fX7_kindOfType U2 a70_33)
                have n12_ := rgI a52_39
                have n13_ := rgI a56_40
                have n14_ := rgI (fX7_secondOf U2 a52_39)
                have n15_ := rgI r58_41
                have n17_ := lo_1k
                have n17_ := t_addD (a := v2_1) (b := Int32.ofInt 1)
                have n18_ := rgI (v2_1 + Int32.ofInt 1)
                omega
          · unfold w_X7_typesHold_J72
            intro y46_
            intro a47_46 ea47_46 
            have ga47_46 := congrArg Int32.toInt ea47_46
            refine ih2 f  ?_
            · have n1_ := rgI a47_46
              have n2_ := rgI v2_1
              have n3_ := rgI (qI U2 9 5)
              have n4_ := rgI a38_30
              have n5_ := rgI (fX7_tagOf U2 v2_1)
              have n6_ := rgI a66_32
              have n7_ := rgI (fX7_secondOf U2 v2_1)
              have n8_ := rgI a70_33
              have n9_ := rgI (fX7_secondOf U2 a66_32)
              have n10_ := rgI a74_34
              have n11_ := rgI (fX7_kindOfType U2 a70_33)
              have n13_ := lo_1k
              have n13_ := t_addD (a := v2_1) (b := Int32.ofInt 1)
              have n14_ := rgI (v2_1 + Int32.ofInt 1)
              omega
      · unfold w_X7_typesHold_J38
        intro y47_
        refine ⟨fun c47_ => ?_, fun c47_ => ?_⟩
        · refine ⟨?_, ?_⟩
          · exact dd_X7_secondOf (by rw [f.kI (a := 9) (j := 1) hk9 (by decide) (by decide)]; exact h9)
          intro a52_48 ea52_48 
          have ga52_48 := congrArg Int32.toInt ea52_48
          refine ⟨?_, ?_⟩
          · exact dd_X7_secondOf (by rw [f.kI (a := 9) (j := 1) hk9 (by decide) (by decide)]; exact h9)
          intro a56_49 ea56_49 
          have ga56_49 := congrArg Int32.toInt ea56_49
          refine ⟨_, frX7_isMethodType y47_ (sfX7_isMethodType y47_  (by rw [f.kI (a := 9) (j := 1) hk9 (by decide) (by decide)]; exact h9) (f.1.T hk9 (by decide))), ?_⟩
          intro r58_50 S59_50 q48_ y49_ y50_
          have f := f.tr (q48_.2.mo (by decide) (by decide))
          refine ⟨fun c51_ => ?_, fun c51_ => ?_⟩
          · unfold w_X7_typesHold_J60
            intro y51_
            refine ⟨?_, ?_⟩
            · exact dd_X7_entryAt
            intro a42_52 ea42_52 
            have ga42_52 := congrArg Int32.toInt ea42_52
            refine ⟨_, frX7_breaks y51_ (sfX7_breaks y51_ ), ?_⟩
            intro r44_53 S45_53 q52_ y53_ y54_
            have f := f.tr (q52_.2.mo (by decide) (by decide))
            exact trivial
          · unfold w_X7_typesHold_J72
            intro y55_
            intro a47_54 ea47_54 
            have ga47_54 := congrArg Int32.toInt ea47_54
            refine ih2 f  ?_
            · have n1_ := rgI a47_54
              have n2_ := rgI v2_1
              have n3_ := rgI (qI U2 9 5)
              have n4_ := rgI a38_30
              have n5_ := rgI (fX7_tagOf U2 v2_1)
              have n6_ := rgI a52_48
              have n7_ := rgI (fX7_secondOf U2 v2_1)
              have n8_ := rgI a56_49
              have n9_ := rgI (fX7_secondOf U2 a52_48)
              have n10_ := rgI r58_50
              have n12_ := lo_1k
              have n12_ := t_addD (a := v2_1) (b := Int32.ofInt 1)
              have n13_ := rgI (v2_1 + Int32.ofInt 1)
              omega
        · unfold w_X7_typesHold_J72
          intro y56_
          intro a47_55 ea47_55 
          have ga47_55 := congrArg Int32.toInt ea47_55
          refine ih2 f  ?_
          · have n1_ := rgI a47_55
            have n2_ := rgI v2_1
            have n3_ := rgI (qI U2 9 5)
            have n4_ := rgI a38_30
            have n5_ := rgI (fX7_tagOf U2 v2_1)
            have n7_ := lo_1k
            have n7_ := t_addD (a := v2_1) (b := Int32.ofInt 1)
            have n8_ := rgI (v2_1 + Int32.ofInt 1)
            omega
set_option maxRecDepth 100000 in
theorem sfX7_typesHold {S : MS} (hw : wfC S) (h9 : 0 ≤ (qI S 9 1).toInt) (hk9 : qT S 9 = 46) : wX7_typesHold S (fun _ _ => True) := by
  have f : cfr [] [(46, 2), (46, 3), (46, 12), (46, 13), (46, 14)] S S := cfr.rf
  unfold wX7_typesHold
  refine ⟨(2147483648 - (1 : Int32).toInt).toNat + 1, ?_⟩
  refine sf_X7_typesHold_L2 h9 hk9 _ f  ?_
  · have n1_ := li_1k
    omega
