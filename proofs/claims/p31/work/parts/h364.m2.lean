set_option maxRecDepth 100000 in
theorem sg_X5_raise_L5 {B : Nat × Nat} : ∀ (n : Nat) {U5 : MS} {v5_1 : Int32} {v5_2 : Int32}, ShC B U5 → McIk U5 → v5_2.toInt + 2147483649 < n → w_X5_raise_L5 (fun u => ShC B u ∧ McIk u ∧ (True)) n U5 v5_1 v5_2 := by
  intro n
  induction n with
  | zero => intro U5 v5_1 v5_2 g m_  hm_; exfalso; have := rgI v5_1; have := rgI v5_2; omega
  | succ n ih5 =>
    intro U5 v5_1 v5_2 g m_  hm_
    unfold w_X5_raise_L5
    intro y1_
    refine ⟨fun c0_ => ?_, fun c0_ => ?_⟩
    · intro S3_1 eS3_1 y2_ y3_
      have f2_ : cfr [] [(45, 15)] U5 S3_1 := by rw [eS3_1]; exact cfr.oI y2_ (by decide)
      have t3_ : (qI S3_1 44 11).toInt = (qI U5 44 11).toInt := congrArg Int32.toInt (f2_.kI (j := 11) (y1_.2.1 _ finC_29).2.1 (by decide) (by decide))
      have t4_ : (qI S3_1 44 15).toInt = (1 : Int32).toInt := by rw [eS3_1, qI_wI, if_pos ⟨rfl, rfl⟩]
      have gO_ := g
      have g : ShC B S3_1 := ShC.ws y1_ g f2_ (by rw [eS3_1]; rfl) (by rw [eS3_1]; rfl) (by rw [eS3_1]; rfl) rfl rfl
      have m_ : McIk S3_1 := McIk.frg y1_ gO_ m_ f2_ rfl rfl rfl
      intro S4_5 eS4_5 y4_ y5_
      have f6_ : cfr [] [(45, 17)] S3_1 S4_5 := by rw [eS4_5]; exact cfr.oI y4_ (by decide)
      have t7_ : (qI S4_5 44 11).toInt = (qI S3_1 44 11).toInt := congrArg Int32.toInt (f6_.kI (j := 11) (y3_.2.1 _ finC_29).2.1 (by decide) (by decide))
      have t8_ : (qI S4_5 44 17).toInt = v5_1.toInt := by rw [eS4_5, qI_wI, if_pos ⟨rfl, rfl⟩]
      have gO_ := g
      have g : ShC B S4_5 := ShC.ws y3_ g f6_ (by rw [eS4_5]; rfl) (by rw [eS4_5]; rfl) (by rw [eS4_5]; rfl) rfl rfl
      have m_ : McIk S4_5 := McIk.frg y3_ gO_ m_ f6_ rfl rfl rfl
      exact ⟨g, m_, trivial⟩
    · refine ⟨_, frX5_handlerOf y1_ (sgX5_handlerOf y1_ g m_), ?_⟩
      intro r6_9 S7_9 q6_ y7_ y8_
      have t10_ : (qI S7_9 44 11).toInt = (qI U5 44 11).toInt := congrArg Int32.toInt (q6_.2.kI (j := 11) (y1_.2.1 _ finC_29).2.1 (by decide) (by decide))
      have gO_ := g
      have g : ShC B S7_9 := q6_.1.1
      have m_ : McIk S7_9 := q6_.1.2.1
      refine ⟨fun c11_ => ?_, fun c11_ => ?_⟩
      · refine ⟨fun c12_ => ?_, fun c12_ => ?_⟩
        · unfold w_X5_raise_J46
          intro y9_
          intro a10_13 ea10_13 
          have ga10_13 := t_dec ea10_13
          refine ih5 g m_ ?_
          · have s14_ := m_.num
            have n1_ := rgI a10_13
            have n2_ := rgI v5_2
            have n3_ := rgI r6_9
            omega
        · refine ⟨_, frX5_closeFrame y7_ (sgX5_closeFrame y7_ g m_), ?_⟩
          intro S13_15 q10_ y11_ y12_
          have gO_ := g
          have g : ShC B S13_15 := q10_.1.1
          have m_ : McIk S13_15 := q10_.1.2.1
          unfold w_X5_raise_J46
          intro y13_
          intro a10_16 ea10_16 
          have ga10_16 := t_dec ea10_16
          refine ih5 g m_ ?_
          · have s17_ := m_.num
            have n1_ := rgI a10_16
            have n2_ := rgI v5_2
            have n3_ := rgI r6_9
            omega
      · intro S15_18 eS15_18 y14_ y15_
        have f19_ : cfr [] [(45, 13)] S7_9 S15_18 := by rw [eS15_18]; exact cfr.oI y14_ (by decide)
        have t20_ : (qI S15_18 44 11).toInt = (qI S7_9 44 11).toInt := congrArg Int32.toInt (f19_.kI (j := 11) (y7_.2.1 _ finC_29).2.1 (by decide) (by decide))
        have t21_ : (qI S15_18 44 13).toInt = r6_9.toInt := by rw [eS15_18, qI_wI, if_pos ⟨rfl, rfl⟩]
        have gO_ := g
        have g : ShC B S15_18 := ShC.ws y7_ g f19_ (by rw [eS15_18]; rfl) (by rw [eS15_18]; rfl) (by rw [eS15_18]; rfl) rfl rfl
        have m_ : McIk S15_18 := McIk.frg y7_ gO_ m_ f19_ rfl rfl rfl
        intro S16_22 eS16_22 y16_ y17_
        have f23_ : cfr [] [(45, 14)] S15_18 S16_22 := by rw [eS16_22]; exact cfr.oI y16_ (by decide)
        have t24_ : (qI S16_22 44 11).toInt = (qI S15_18 44 11).toInt := congrArg Int32.toInt (f23_.kI (j := 11) (y15_.2.1 _ finC_29).2.1 (by decide) (by decide))
        have t25_ : (qI S16_22 44 14).toInt = (0 : Int32).toInt := by rw [eS16_22, qI_wI, if_pos ⟨rfl, rfl⟩]
        have gO_ := g
        have g : ShC B S16_22 := ShC.ws y15_ g f23_ (by rw [eS16_22]; rfl) (by rw [eS16_22]; rfl) (by rw [eS16_22]; rfl) rfl rfl
        have m_ : McIk S16_22 := McIk.frg y15_ gO_ m_ f23_ rfl rfl rfl
        refine ⟨_, frX5_push y17_ (sfX5_push y17_ ), ?_⟩
        intro S19_26 q18_ y19_ y20_
        have t27_ : (qI S19_26 44 11).toInt = (qI S16_22 44 11).toInt := congrArg Int32.toInt (q18_.2.kI (j := 11) (y17_.2.1 _ finC_29).2.1 (by decide) (by decide))
        have gO_ := g
        have g : ShC B S19_26 := ShC.ca y17_ g q18_.2 y20_ y19_ rfl rfl
        have m_ : McIk S19_26 := McIk.frg y17_ gO_ m_ q18_.2 rfl rfl rfl
        exact ⟨g, m_, trivial⟩
set_option maxRecDepth 100000 in
theorem sgX5_raise {B : Nat × Nat} {S : MS} {x1 : Int32} (hw : wfC S) (g : ShC B S) (m_ : McIk S) : wX5_raise S x1 (fun u => ShC B u ∧ McIk u ∧ (True)) := by
  unfold wX5_raise
  intro a1_28 ea1_28 
  have ga1_28 := congrArg Int32.toInt ea1_28
  refine ⟨(a1_28.toInt + 2147483649).toNat + 1, ?_⟩
  refine sg_X5_raise_L5  _ g m_ ?_
  · have s29_ := m_.num
    have n1_ := rgI a1_28
    have n2_ := rgI (qI S 44 11)
    omega
set_option maxRecDepth 100000 in
theorem sgX5_leave {B : Nat × Nat} {S : MS} {x1 : Int32} (hw : wfC S) (g : ShC B S) (m_ : McIk S) : wX5_leave S x1 (fun u => ShC B u ∧ McIk u ∧ (True)) := by
  unfold wX5_leave
  refine ⟨?_, ?_⟩
  · exact dd_X6_takes
  intro a4_0 ea4_0 
  have ga4_0 := congrArg Int32.toInt ea4_0
  refine ⟨_, frX5_pop_ hw (sfX5_pop_ hw ), ?_⟩
  intro r6_1 S7_1 q1_ y2_ y3_
  have t2_ : (qI S7_1 44 13).toInt = (qI S 44 13).toInt := congrArg Int32.toInt (q1_.2.kI (j := 13) (hw.2.1 _ finC_29).2.1 (by decide) (by decide))
  have t3_ : (qI S7_1 44 11).toInt = (qI S 44 11).toInt := congrArg Int32.toInt (q1_.2.kI (j := 11) (hw.2.1 _ finC_29).2.1 (by decide) (by decide))
  have gO_ := g
  have g : ShC B S7_1 := ShC.ca hw g q1_.2 y3_ y2_ rfl rfl
  have m_ : McIk S7_1 := McIk.frg hw gO_ m_ q1_.2 rfl rfl rfl
  refine ⟨fun c4_ => ?_, fun c4_ => ?_⟩
  · intro S18_5 eS18_5 y4_ y5_
    have f6_ : cfr [] [(45, 15)] S7_1 S18_5 := by rw [eS18_5]; exact cfr.oI y4_ (by decide)
    have t7_ : (qI S18_5 44 13).toInt = (qI S7_1 44 13).toInt := congrArg Int32.toInt (f6_.kI (j := 13) (y2_.2.1 _ finC_29).2.1 (by decide) (by decide))
    have t8_ : (qI S18_5 44 11).toInt = (qI S7_1 44 11).toInt := congrArg Int32.toInt (f6_.kI (j := 11) (y2_.2.1 _ finC_29).2.1 (by decide) (by decide))
    have t9_ : (qI S18_5 44 15).toInt = (0 : Int32).toInt := by rw [eS18_5, qI_wI, if_pos ⟨rfl, rfl⟩]
    have gO_ := g
    have g : ShC B S18_5 := ShC.ws y2_ g f6_ (by rw [eS18_5]; rfl) (by rw [eS18_5]; rfl) (by rw [eS18_5]; rfl) rfl rfl
    have m_ : McIk S18_5 := McIk.frg y2_ gO_ m_ f6_ rfl rfl rfl
    intro S19_10 eS19_10 y6_ y7_
    have f11_ : cfr [] [(45, 16)] S18_5 S19_10 := by rw [eS19_10]; exact cfr.oJ y6_ (by decide)
    have t12_ : (qI S19_10 44 13).toInt = (qI S18_5 44 13).toInt := congrArg Int32.toInt (f11_.kI (j := 13) (y5_.2.1 _ finC_29).2.1 (by decide) (by decide))
    have t13_ : (qI S19_10 44 11).toInt = (qI S18_5 44 11).toInt := congrArg Int32.toInt (f11_.kI (j := 11) (y5_.2.1 _ finC_29).2.1 (by decide) (by decide))
    have gO_ := g
    have g : ShC B S19_10 := ShC.ws y5_ g f11_ (by rw [eS19_10]; rfl) (by rw [eS19_10]; rfl) (by rw [eS19_10]; rfl) rfl rfl
    have m_ : McIk S19_10 := McIk.frg y5_ gO_ m_ f11_ rfl rfl rfl
    exact ⟨g, m_, trivial⟩
  · refine ⟨_, frX5_closeFrame y2_ (sgX5_closeFrame y2_ g m_), ?_⟩
    intro S11_14 q8_ y9_ y10_
    have gO_ := g
    have g : ShC B S11_14 := q8_.1.1
    have m_ : McIk S11_14 := q8_.1.2.1
    refine ⟨_, frX5_push_ y9_ (sfX5_push_ y9_ ), ?_⟩
    intro S14_15 q11_ y12_ y13_
    have t16_ : (qI S14_15 44 13).toInt = (qI S11_14 44 13).toInt := congrArg Int32.toInt (q11_.2.kI (j := 13) (y9_.2.1 _ finC_29).2.1 (by decide) (by decide))
    have t17_ : (qI S14_15 44 11).toInt = (qI S11_14 44 11).toInt := congrArg Int32.toInt (q11_.2.kI (j := 11) (y9_.2.1 _ finC_29).2.1 (by decide) (by decide))
    have gO_ := g
    have g : ShC B S14_15 := ShC.ca y9_ g q11_.2 y13_ y12_ rfl rfl
    have m_ : McIk S14_15 := McIk.frg y9_ gO_ m_ q11_.2 rfl rfl rfl
    intro S17_18 eS17_18 y14_ y15_
    have f19_ : cfr [] [(45, 13)] S14_15 S17_18 := by rw [eS17_18]; exact cfr.oI y14_ (by decide)
    have t20_ : (qI S17_18 44 11).toInt = (qI S14_15 44 11).toInt := congrArg Int32.toInt (f19_.kI (j := 11) (y12_.2.1 _ finC_29).2.1 (by decide) (by decide))
    have t21_ : (qI S17_18 44 13).toInt = ((qI S14_15 44 13) + (1 : Int32)).toInt := by rw [eS17_18, qI_wI, if_pos ⟨rfl, rfl⟩]
    have gO_ := g
    have g : ShC B S17_18 := ShC.ws y12_ g f19_ (by rw [eS17_18]; rfl) (by rw [eS17_18]; rfl) (by rw [eS17_18]; rfl) rfl rfl
    have m_ : McIk S17_18 := McIk.frg y12_ gO_ m_ f19_ rfl rfl rfl
    exact ⟨g, m_, trivial⟩
set_option maxRecDepth 100000 in
theorem sgX5_calculate {B : Nat × Nat} {S : MS} {x1 : Int32} (hw : wfC S) (g : ShC B S) (m_ : McIk S) : wX5_calculate S x1 (fun u => ShC B u ∧ McIk u ∧ (True)) := by
  unfold wX5_calculate
  refine ⟨?_, ?_⟩
  · exact dd_X6_takes
  intro a4_0 ea4_0 
  have ga4_0 := congrArg Int32.toInt ea4_0
  refine ⟨_, frX5_pop_ hw (sfX5_pop_ hw ), ?_⟩
  intro r7_1 S8_1 q1_ y2_ y3_
  have t2_ : (qI S8_1 44 13).toInt = (qI S 44 13).toInt := congrArg Int32.toInt (q1_.2.kI (j := 13) (hw.2.1 _ finC_29).2.1 (by decide) (by decide))
  have gO_ := g
  have g : ShC B S8_1 := ShC.ca hw g q1_.2 y3_ y2_ rfl rfl
  have m_ : McIk S8_1 := McIk.frg hw gO_ m_ q1_.2 rfl rfl rfl
  refine ⟨_, frX5_pop_ y2_ (sfX5_pop_ y2_ ), ?_⟩
  intro r12_3 S13_3 q4_ y5_ y6_
  have t4_ : (qI S13_3 44 13).toInt = (qI S8_1 44 13).toInt := congrArg Int32.toInt (q4_.2.kI (j := 13) (y2_.2.1 _ finC_29).2.1 (by decide) (by decide))
  have gO_ := g
  have g : ShC B S13_3 := ShC.ca y2_ g q4_.2 y6_ y5_ rfl rfl
  have m_ : McIk S13_3 := McIk.frg y2_ gO_ m_ q4_.2 rfl rfl rfl
  refine ⟨?_, ?_⟩
  · exact dd_X6_isDivision
  intro a18_5 ea18_5 
  have ga18_5 := congrArg Int32.toInt ea18_5
  refine ⟨fun c6_ => ?_, fun c6_ => ?_⟩
  · unfold w_X5_calculate_J42
    intro y7_
    refine ⟨?_, ?_⟩
    · exact dd_X6_gives
    intro a22_7 ea22_7 
    have ga22_7 := congrArg Int32.toInt ea22_7
    refine ⟨?_, ?_⟩
    · exact (dd_X6_binary y7_ g)
    intro a26_8 ea26_8 
    refine ⟨_, frX5_push_ y7_ (sfX5_push_ y7_ ), ?_⟩
    intro S28_9 q8_ y9_ y10_
    have t10_ : (qI S28_9 44 13).toInt = (qI S13_3 44 13).toInt := congrArg Int32.toInt (q8_.2.kI (j := 13) (y7_.2.1 _ finC_29).2.1 (by decide) (by decide))
    have gO_ := g
    have g : ShC B S28_9 := ShC.ca y7_ g q8_.2 y10_ y9_ rfl rfl
    have m_ : McIk S28_9 := McIk.frg y7_ gO_ m_ q8_.2 rfl rfl rfl
    intro S31_11 eS31_11 y11_ y12_
    have f12_ : cfr [] [(45, 13)] S28_9 S31_11 := by rw [eS31_11]; exact cfr.oI y11_ (by decide)
    have t13_ : (qI S31_11 44 13).toInt = ((qI S28_9 44 13) + (1 : Int32)).toInt := by rw [eS31_11, qI_wI, if_pos ⟨rfl, rfl⟩]
    have gO_ := g
    have g : ShC B S31_11 := ShC.ws y9_ g f12_ (by rw [eS31_11]; rfl) (by rw [eS31_11]; rfl) (by rw [eS31_11]; rfl) rfl rfl
    have m_ : McIk S31_11 := McIk.frg y9_ gO_ m_ f12_ rfl rfl rfl
    exact ⟨g, m_, trivial⟩
  · refine ⟨fun c14_ => ?_, fun c14_ => ?_⟩
    · refine ⟨_, frX5_raise y5_ (sgX5_raise y5_ g m_), ?_⟩
      intro S36_15 q13_ y14_ y15_
      have gO_ := g
      have g : ShC B S36_15 := q13_.1.1
      have m_ : McIk S36_15 := q13_.1.2.1
      exact ⟨g, m_, trivial⟩
    · unfold w_X5_calculate_J42
      intro y16_
      refine ⟨?_, ?_⟩
      · exact dd_X6_gives
      intro a22_16 ea22_16 
      have ga22_16 := congrArg Int32.toInt ea22_16
      refine ⟨?_, ?_⟩
      · exact (dd_X6_binary y16_ g)
      intro a26_17 ea26_17 
      refine ⟨_, frX5_push_ y16_ (sfX5_push_ y16_ ), ?_⟩
      intro S28_18 q17_ y18_ y19_
      have t19_ : (qI S28_18 44 13).toInt = (qI S13_3 44 13).toInt := congrArg Int32.toInt (q17_.2.kI (j := 13) (y16_.2.1 _ finC_29).2.1 (by decide) (by decide))
      have gO_ := g
      have g : ShC B S28_18 := ShC.ca y16_ g q17_.2 y19_ y18_ rfl rfl
      have m_ : McIk S28_18 := McIk.frg y16_ gO_ m_ q17_.2 rfl rfl rfl
      intro S31_20 eS31_20 y20_ y21_
      have f21_ : cfr [] [(45, 13)] S28_18 S31_20 := by rw [eS31_20]; exact cfr.oI y20_ (by decide)
      have t22_ : (qI S31_20 44 13).toInt = ((qI S28_18 44 13) + (1 : Int32)).toInt := by rw [eS31_20, qI_wI, if_pos ⟨rfl, rfl⟩]
      have gO_ := g
      have g : ShC B S31_20 := ShC.ws y18_ g f21_ (by rw [eS31_20]; rfl) (by rw [eS31_20]; rfl) (by rw [eS31_20]; rfl) rfl rfl
      have m_ : McIk S31_20 := McIk.frg y18_ gO_ m_ f21_ rfl rfl rfl
      exact ⟨g, m_, trivial⟩
set_option maxRecDepth 100000 in
theorem sgX5_throwIt {B : Nat × Nat} {S : MS} {y1 : Int64} (hw : wfC S) (g : ShC B S) (m_ : McIk S) : wX5_throwIt S y1 (fun u => ShC B u ∧ McIk u ∧ (True)) := by
  unfold wX5_throwIt
  refine ⟨fun c0_ => ?_, fun c0_ => ?_⟩
  · unfold w_X5_throwIt_J24
    intro y1_
    refine ⟨_, frX5_raise y1_ (sgX5_raise y1_ g m_), ?_⟩
    intro S3_1 q2_ y3_ y4_
    have gO_ := g
    have g : ShC B S3_1 := q2_.1.1
    have m_ : McIk S3_1 := q2_.1.2.1
    exact ⟨g, m_, trivial⟩
  · refine ⟨fun c2_ => ?_, fun c2_ => ?_⟩
    · unfold w_X5_throwIt_J24
      intro y5_
      refine ⟨_, frX5_raise y5_ (sgX5_raise y5_ g m_), ?_⟩
      intro S3_3 q6_ y7_ y8_
      have gO_ := g
      have g : ShC B S3_3 := q6_.1.1
      have m_ : McIk S3_3 := q6_.1.2.1
      exact ⟨g, m_, trivial⟩
    · refine ⟨_, frX5_raise hw (sgX5_raise hw g m_), ?_⟩
      intro S10_4 q9_ y10_ y11_
      have gO_ := g
      have g : ShC B S10_4 := q9_.1.1
      have m_ : McIk S10_4 := q9_.1.2.1
      exact ⟨g, m_, trivial⟩
set_option maxRecDepth 100000 in
theorem sgX5_tellLength {B : Nat × Nat} {S : MS} {y1 : Int64} (hw : wfC S) (g : ShC B S) (m_ : McIk S) : wX5_tellLength S y1 (fun u => ShC B u ∧ McIk u ∧ (True)) := by
  unfold wX5_tellLength
  refine ⟨fun c0_ => ?_, fun c0_ => ?_⟩
  · refine ⟨_, frX5_raise hw (sgX5_raise hw g m_), ?_⟩
    intro S12_1 q1_ y2_ y3_
    have gO_ := g
    have g : ShC B S12_1 := q1_.1.1
    have m_ : McIk S12_1 := q1_.1.2.1
    exact ⟨g, m_, trivial⟩
  · refine ⟨?_, ?_⟩
    · exact dd_X5_lengthOf
    refine ⟨_, frX5_push hw (sfX5_push hw ), ?_⟩
    intro S7_2 q4_ y5_ y6_
    have t3_ : (qI S7_2 44 13).toInt = (qI S 44 13).toInt := congrArg Int32.toInt (q4_.2.kI (j := 13) (hw.2.1 _ finC_29).2.1 (by decide) (by decide))
    have gO_ := g
    have g : ShC B S7_2 := ShC.ca hw g q4_.2 y6_ y5_ rfl rfl
    have m_ : McIk S7_2 := McIk.frg hw gO_ m_ q4_.2 rfl rfl rfl
    intro S10_4 eS10_4 y7_ y8_
    have f5_ : cfr [] [(45, 13)] S7_2 S10_4 := by rw [eS10_4]; exact cfr.oI y7_ (by decide)
    have t6_ : (qI S10_4 44 13).toInt = ((qI S7_2 44 13) + (1 : Int32)).toInt := by rw [eS10_4, qI_wI, if_pos ⟨rfl, rfl⟩]
    have gO_ := g
    have g : ShC B S10_4 := ShC.ws y5_ g f5_ (by rw [eS10_4]; rfl) (by rw [eS10_4]; rfl) (by rw [eS10_4]; rfl) rfl rfl
    have m_ : McIk S10_4 := McIk.frg y5_ gO_ m_ f5_ rfl rfl rfl
    exact ⟨g, m_, trivial⟩
set_option maxRecDepth 100000 in
theorem sgX5_useElement {B : Nat × Nat} {S : MS} {x1 : Int32} (hw : wfC S) (g : ShC B S) (m_ : McIk S) : wX5_useElement S x1 (fun u => ShC B u ∧ McIk u ∧ (True)) := by
  unfold wX5_useElement
  refine ⟨fun c0_ => ?_, fun c0_ => ?_⟩
  · refine ⟨_, frX5_pop hw (sfX5_pop hw ), ?_⟩
    intro r47_1 S48_1 q1_ y2_ y3_
    have t2_ : (qI S48_1 44 13).toInt = (qI S 44 13).toInt := congrArg Int32.toInt (q1_.2.kI (j := 13) (hw.2.1 _ finC_29).2.1 (by decide) (by decide))
    have t3_ : (qN S48_1 (qO S48_1 44 2) : Int) = (qN S (qO S 44 2) : Int) := q1_.2.kL (j := 2) hw (hw.2.1 _ finC_29).2.1 (hw.ptr ptrC_18) (by decide) (by decide)
    have gO_ := g
    have g : ShC B S48_1 := ShC.ca hw g q1_.2 y3_ y2_ rfl rfl
    have m_ : McIk S48_1 := McIk.frg hw gO_ m_ q1_.2 rfl rfl rfl
    unfold w_X5_useElement_J15
    intro y4_
    refine ⟨_, frX5_pop y4_ (sfX5_pop y4_ ), ?_⟩
    intro r2_4 S3_4 q5_ y6_ y7_
    have t5_ : (qI S3_4 44 13).toInt = (qI S48_1 44 13).toInt := congrArg Int32.toInt (q5_.2.kI (j := 13) (y4_.2.1 _ finC_29).2.1 (by decide) (by decide))
    have t6_ : (qN S3_4 (qO S3_4 44 2) : Int) = (qN S48_1 (qO S48_1 44 2) : Int) := q5_.2.kL (j := 2) y4_ (y4_.2.1 _ finC_29).2.1 (y4_.ptr ptrC_18) (by decide) (by decide)
    have gO_ := g
    have g : ShC B S3_4 := ShC.ca y4_ g q5_.2 y7_ y6_ rfl rfl
    have m_ : McIk S3_4 := McIk.frg y4_ gO_ m_ q5_.2 rfl rfl rfl
    intro a5_7 ea5_7 
    have ga5_7 := congrArg Int32.toInt ea5_7
    refine ⟨_, frX5_pop y6_ (sfX5_pop y6_ ), ?_⟩
    intro r7_8 S8_8 q8_ y9_ y10_
    have t9_ : (qI S8_8 44 13).toInt = (qI S3_4 44 13).toInt := congrArg Int32.toInt (q8_.2.kI (j := 13) (y6_.2.1 _ finC_29).2.1 (by decide) (by decide))
    have t10_ : (qN S8_8 (qO S8_8 44 2) : Int) = (qN S3_4 (qO S3_4 44 2) : Int) := q8_.2.kL (j := 2) y6_ (y6_.2.1 _ finC_29).2.1 (y6_.ptr ptrC_18) (by decide) (by decide)
    have gO_ := g
    have g : ShC B S8_8 := ShC.ca y6_ g q8_.2 y10_ y9_ rfl rfl
    have m_ : McIk S8_8 := McIk.frg y6_ gO_ m_ q8_.2 rfl rfl rfl
    intro a10_11 ea10_11 
    have ga10_11 := congrArg Int32.toInt ea10_11
    refine ⟨fun c12_ => ?_, fun c12_ => ?_⟩
    · refine ⟨_, frX5_raise y9_ (sgX5_raise y9_ g m_), ?_⟩
      intro S43_13 q11_ y12_ y13_
      have t14_ : (qN S43_13 (qO S43_13 44 2) : Int) = (qN S8_8 (qO S8_8 44 2) : Int) := q11_.2.kL (j := 2) y9_ (y9_.2.1 _ finC_29).2.1 (y9_.ptr ptrC_18) (by decide) (by decide)
      have gO_ := g
      have g : ShC B S43_13 := q11_.1.1
      have m_ : McIk S43_13 := q11_.1.2.1
      exact ⟨g, m_, trivial⟩
    · refine ⟨fun c15_ => ?_, fun c15_ => ?_⟩
      · unfold w_X5_useElement_J54
        intro y14_
        refine ⟨_, frX5_raise y14_ (sgX5_raise y14_ g m_), ?_⟩
        intro S13_16 q15_ y16_ y17_
        have t17_ : (qN S13_16 (qO S13_16 44 2) : Int) = (qN S8_8 (qO S8_8 44 2) : Int) := q15_.2.kL (j := 2) y14_ (y14_.2.1 _ finC_29).2.1 (y14_.ptr ptrC_18) (by decide) (by decide)
        have gO_ := g
        have g : ShC B S13_16 := q15_.1.1
        have m_ : McIk S13_16 := q15_.1.2.1
        exact ⟨g, m_, trivial⟩
      · refine ⟨?_, ?_⟩
        · exact dd_X5_lengthOf
        refine ⟨fun c18_ => ?_, fun c18_ => ?_⟩
        · refine ⟨?_, ?_⟩
          · exact dd_X5_arrayStart
          intro a24_19 ea24_19 
          have ga24_19 := congrArg Int32.toInt ea24_19
          refine ⟨fun c20_ => ?_, fun c20_ => ?_⟩
          · refine ⟨_, frX5_heapAt y9_ (sfX5_heapAt y9_ ), ?_⟩
            intro r36_21 S37_21 q18_ y19_ y20_
            have t22_ : (qI S37_21 44 13).toInt = (qI S8_8 44 13).toInt := congrArg Int32.toInt (q18_.2.kI (j := 13) (y9_.2.1 _ finC_29).2.1 (by decide) (by decide))
            have t23_ : (qN S37_21 (qO S37_21 44 2) : Int) = (qN S8_8 (qO S8_8 44 2) : Int) := q18_.2.kL (j := 2) y9_ (y9_.2.1 _ finC_29).2.1 (y9_.ptr ptrC_18) (by decide) (by decide)
            have gO_ := g
            have g : ShC B S37_21 := ShC.ca y9_ g q18_.2 y20_ y19_ rfl rfl
            have m_ : McIk S37_21 := McIk.frg y9_ gO_ m_ q18_.2 rfl rfl rfl
            refine ⟨_, frX5_push y19_ (sfX5_push y19_ ), ?_⟩
            intro S40_24 q21_ y22_ y23_
            have t25_ : (qI S40_24 44 13).toInt = (qI S37_21 44 13).toInt := congrArg Int32.toInt (q21_.2.kI (j := 13) (y19_.2.1 _ finC_29).2.1 (by decide) (by decide))
            have t26_ : (qN S40_24 (qO S40_24 44 2) : Int) = (qN S37_21 (qO S37_21 44 2) : Int) := q21_.2.kL (j := 2) y19_ (y19_.2.1 _ finC_29).2.1 (y19_.ptr ptrC_18) (by decide) (by decide)
            have gO_ := g
            have g : ShC B S40_24 := ShC.ca y19_ g q21_.2 y23_ y22_ rfl rfl
            have m_ : McIk S40_24 := McIk.frg y19_ gO_ m_ q21_.2 rfl rfl rfl
            unfold w_X5_useElement_J113
            intro y24_
            intro S26_27 eS26_27 y25_ y26_
            have f28_ : cfr [] [(45, 13)] S40_24 S26_27 := by rw [eS26_27]; exact cfr.oI y25_ (by decide)
            have t29_ : (qN S26_27 (qO S26_27 44 2) : Int) = (qN S40_24 (qO S40_24 44 2) : Int) := f28_.kL (j := 2) y24_ (y24_.2.1 _ finC_29).2.1 (y24_.ptr ptrC_18) (by decide) (by decide)
            have t30_ : (qI S26_27 44 13).toInt = ((qI S40_24 44 13) + (1 : Int32)).toInt := by rw [eS26_27, qI_wI, if_pos ⟨rfl, rfl⟩]
            have gO_ := g
            have g : ShC B S26_27 := ShC.ws y24_ g f28_ (by rw [eS26_27]; rfl) (by rw [eS26_27]; rfl) (by rw [eS26_27]; rfl) rfl rfl
            have m_ : McIk S26_27 := McIk.frg y24_ gO_ m_ f28_ rfl rfl rfl
            exact ⟨g, m_, trivial⟩
          · refine ⟨fun c31_ => ?_, fun c31_ => ?_⟩
            · unfold w_X5_useElement_J113
              intro y27_
              intro S26_32 eS26_32 y28_ y29_
              have f33_ : cfr [] [(45, 13)] S8_8 S26_32 := by rw [eS26_32]; exact cfr.oI y28_ (by decide)
              have t34_ : (qN S26_32 (qO S26_32 44 2) : Int) = (qN S8_8 (qO S8_8 44 2) : Int) := f33_.kL (j := 2) y27_ (y27_.2.1 _ finC_29).2.1 (y27_.ptr ptrC_18) (by decide) (by decide)
              have t35_ : (qI S26_32 44 13).toInt = ((qI S8_8 44 13) + (1 : Int32)).toInt := by rw [eS26_32, qI_wI, if_pos ⟨rfl, rfl⟩]
              have gO_ := g
              have g : ShC B S26_32 := ShC.ws y27_ g f33_ (by rw [eS26_32]; rfl) (by rw [eS26_32]; rfl) (by rw [eS26_32]; rfl) rfl rfl
              have m_ : McIk S26_32 := McIk.frg y27_ gO_ m_ f33_ rfl rfl rfl
              exact ⟨g, m_, trivial⟩
            · refine ⟨fun c36_ => ?_, fun c36_ => ?_⟩
              · unfold w_X5_useElement_J113
                intro y30_
                intro S26_37 eS26_37 y31_ y32_
                have f38_ : cfr [] [(45, 13)] S8_8 S26_37 := by rw [eS26_37]; exact cfr.oI y31_ (by decide)
                have t39_ : (qN S26_37 (qO S26_37 44 2) : Int) = (qN S8_8 (qO S8_8 44 2) : Int) := f38_.kL (j := 2) y30_ (y30_.2.1 _ finC_29).2.1 (y30_.ptr ptrC_18) (by decide) (by decide)
                have t40_ : (qI S26_37 44 13).toInt = ((qI S8_8 44 13) + (1 : Int32)).toInt := by rw [eS26_37, qI_wI, if_pos ⟨rfl, rfl⟩]
                have gO_ := g
                have g : ShC B S26_37 := ShC.ws y30_ g f38_ (by rw [eS26_37]; rfl) (by rw [eS26_37]; rfl) (by rw [eS26_37]; rfl) rfl rfl
                have m_ : McIk S26_37 := McIk.frg y30_ gO_ m_ f38_ rfl rfl rfl
                exact ⟨g, m_, trivial⟩
              · refine ⟨?_, ?_⟩
                · have s41_ := y9_.len9 (y9_.ref (y9_.ptr ptrC_18) (y9_.2.1 _ finC_29).2.1) (by decide)
                  have s42_ := m_.num
                  have n1_ := rgI a24_19
                  have n2_ := rgI x1
                  have n3_ := rgI a5_7
                  have n4_ := rgI (r2_4.toInt32)
                  have n5_ := rgI a10_11
                  have n6_ := rgI (r7_8.toInt32)
                  have n7_ := rgI (fX5_lengthOf S8_8 a10_11)
                  have n9_ := rgI (fX5_arrayStart S8_8 a10_11)
                  have n9_ := t_addD (a := (fX5_arrayStart S8_8 a10_11)) (b := a5_7)
                  have n10_ := rgI ((fX5_arrayStart S8_8 a10_11) + a5_7)
                  omega
                intro S34_43 eS34_43 y33_ y34_
                have f44_ : cfr [215] [] S8_8 S34_43 := by rw [eS34_43]; exact cfr.aI y33_ (by decide)
                have t45_ : (qI S34_43 44 13).toInt = (qI S8_8 44 13).toInt := congrArg Int32.toInt (f44_.kI (j := 13) (y9_.2.1 _ finC_29).2.1 (by decide) (by decide))
                have t46_ : (qN S34_43 (qO S34_43 44 2) : Int) = (qN S8_8 (qO S8_8 44 2) : Int) := f44_.kL (j := 2) y9_ (y9_.2.1 _ finC_29).2.1 (y9_.ptr ptrC_18) (by decide) (by decide)
                have gO_ := g
                have g : ShC B S34_43 := ShC.ws y9_ g f44_ (by rw [eS34_43]; rfl) (by rw [eS34_43]; rfl) (by rw [eS34_43]; rfl) rfl rfl
                have m_ : McIk S34_43 := McIk.frg y9_ gO_ m_ f44_ rfl rfl rfl
                unfold w_X5_useElement_J113
                intro y35_
                intro S26_47 eS26_47 y36_ y37_
                have f48_ : cfr [] [(45, 13)] S34_43 S26_47 := by rw [eS26_47]; exact cfr.oI y36_ (by decide)
                have t49_ : (qN S26_47 (qO S26_47 44 2) : Int) = (qN S34_43 (qO S34_43 44 2) : Int) := f48_.kL (j := 2) y35_ (y35_.2.1 _ finC_29).2.1 (y35_.ptr ptrC_18) (by decide) (by decide)
                have t50_ : (qI S26_47 44 13).toInt = ((qI S34_43 44 13) + (1 : Int32)).toInt := by rw [eS26_47, qI_wI, if_pos ⟨rfl, rfl⟩]
                have gO_ := g
                have g : ShC B S26_47 := ShC.ws y35_ g f48_ (by rw [eS26_47]; rfl) (by rw [eS26_47]; rfl) (by rw [eS26_47]; rfl) rfl rfl
                have m_ : McIk S26_47 := McIk.frg y35_ gO_ m_ f48_ rfl rfl rfl
                exact ⟨g, m_, trivial⟩
        · unfold w_X5_useElement_J54
          intro y38_
          refine ⟨_, frX5_raise y38_ (sgX5_raise y38_ g m_), ?_⟩
          intro S13_51 q39_ y40_ y41_
          have t52_ : (qN S13_51 (qO S13_51 44 2) : Int) = (qN S8_8 (qO S8_8 44 2) : Int) := q39_.2.kL (j := 2) y38_ (y38_.2.1 _ finC_29).2.1 (y38_.ptr ptrC_18) (by decide) (by decide)
          have gO_ := g
          have g : ShC B S13_51 := q39_.1.1
          have m_ : McIk S13_51 := q39_.1.2.1
          exact ⟨g, m_, trivial⟩
  · unfold w_X5_useElement_J15
    intro y42_
    refine ⟨_, frX5_pop y42_ (sfX5_pop y42_ ), ?_⟩
    intro r2_53 S3_53 q43_ y44_ y45_
    have t54_ : (qI S3_53 44 13).toInt = (qI S 44 13).toInt := congrArg Int32.toInt (q43_.2.kI (j := 13) (y42_.2.1 _ finC_29).2.1 (by decide) (by decide))
    have t55_ : (qN S3_53 (qO S3_53 44 2) : Int) = (qN S (qO S 44 2) : Int) := q43_.2.kL (j := 2) y42_ (y42_.2.1 _ finC_29).2.1 (y42_.ptr ptrC_18) (by decide) (by decide)
    have gO_ := g
    have g : ShC B S3_53 := ShC.ca y42_ g q43_.2 y45_ y44_ rfl rfl
    have m_ : McIk S3_53 := McIk.frg y42_ gO_ m_ q43_.2 rfl rfl rfl
    intro a5_56 ea5_56 
    have ga5_56 := congrArg Int32.toInt ea5_56
    refine ⟨_, frX5_pop y44_ (sfX5_pop y44_ ), ?_⟩
    intro r7_57 S8_57 q46_ y47_ y48_
    have t58_ : (qI S8_57 44 13).toInt = (qI S3_53 44 13).toInt := congrArg Int32.toInt (q46_.2.kI (j := 13) (y44_.2.1 _ finC_29).2.1 (by decide) (by decide))
    have t59_ : (qN S8_57 (qO S8_57 44 2) : Int) = (qN S3_53 (qO S3_53 44 2) : Int) := q46_.2.kL (j := 2) y44_ (y44_.2.1 _ finC_29).2.1 (y44_.ptr ptrC_18) (by decide) (by decide)
    have gO_ := g
    have g : ShC B S8_57 := ShC.ca y44_ g q46_.2 y48_ y47_ rfl rfl
    have m_ : McIk S8_57 := McIk.frg y44_ gO_ m_ q46_.2 rfl rfl rfl
    intro a10_60 ea10_60 
    have ga10_60 := congrArg Int32.toInt ea10_60
    refine ⟨fun c61_ => ?_, fun c61_ => ?_⟩
    · refine ⟨_, frX5_raise y47_ (sgX5_raise y47_ g m_), ?_⟩
      intro S43_62 q49_ y50_ y51_
      have t63_ : (qN S43_62 (qO S43_62 44 2) : Int) = (qN S8_57 (qO S8_57 44 2) : Int) := q49_.2.kL (j := 2) y47_ (y47_.2.1 _ finC_29).2.1 (y47_.ptr ptrC_18) (by decide) (by decide)
      have gO_ := g
      have g : ShC B S43_62 := q49_.1.1
      have m_ : McIk S43_62 := q49_.1.2.1
      exact ⟨g, m_, trivial⟩
    · refine ⟨fun c64_ => ?_, fun c64_ => ?_⟩
      · unfold w_X5_useElement_J54
        intro y52_
        refine ⟨_, frX5_raise y52_ (sgX5_raise y52_ g m_), ?_⟩
        intro S13_65 q53_ y54_ y55_
        have t66_ : (qN S13_65 (qO S13_65 44 2) : Int) = (qN S8_57 (qO S8_57 44 2) : Int) := q53_.2.kL (j := 2) y52_ (y52_.2.1 _ finC_29).2.1 (y52_.ptr ptrC_18) (by decide) (by decide)
        have gO_ := g
        have g : ShC B S13_65 := q53_.1.1
        have m_ : McIk S13_65 := q53_.1.2.1
        exact ⟨g, m_, trivial⟩
      · refine ⟨?_, ?_⟩
        · exact dd_X5_lengthOf
        refine ⟨fun c67_ => ?_, fun c67_ => ?_⟩
        · refine ⟨?_, ?_⟩
          · exact dd_X5_arrayStart
          intro a24_68 ea24_68 
          have ga24_68 := congrArg Int32.toInt ea24_68
          refine ⟨fun c69_ => ?_, fun c69_ => ?_⟩
          · refine ⟨_, frX5_heapAt y47_ (sfX5_heapAt y47_ ), ?_⟩
            intro r36_70 S37_70 q56_ y57_ y58_
            have t71_ : (qI S37_70 44 13).toInt = (qI S8_57 44 13).toInt := congrArg Int32.toInt (q56_.2.kI (j := 13) (y47_.2.1 _ finC_29).2.1 (by decide) (by decide))
            have t72_ : (qN S37_70 (qO S37_70 44 2) : Int) = (qN S8_57 (qO S8_57 44 2) : Int) := q56_.2.kL (j := 2) y47_ (y47_.2.1 _ finC_29).2.1 (y47_.ptr ptrC_18) (by decide) (by decide)
            have gO_ := g
            have g : ShC B S37_70 := ShC.ca y47_ g q56_.2 y58_ y57_ rfl rfl
            have m_ : McIk S37_70 := McIk.frg y47_ gO_ m_ q56_.2 rfl rfl rfl
            refine ⟨_, frX5_push y57_ (sfX5_push y57_ ), ?_⟩
            intro S40_73 q59_ y60_ y61_
            have t74_ : (qI S40_73 44 13).toInt = (qI S37_70 44 13).toInt := congrArg Int32.toInt (q59_.2.kI (j := 13) (y57_.2.1 _ finC_29).2.1 (by decide) (by decide))
            have t75_ : (qN S40_73 (qO S40_73 44 2) : Int) = (qN S37_70 (qO S37_70 44 2) : Int) := q59_.2.kL (j := 2) y57_ (y57_.2.1 _ finC_29).2.1 (y57_.ptr ptrC_18) (by decide) (by decide)
            have gO_ := g
            have g : ShC B S40_73 := ShC.ca y57_ g q59_.2 y61_ y60_ rfl rfl
            have m_ : McIk S40_73 := McIk.frg y57_ gO_ m_ q59_.2 rfl rfl rfl
            unfold w_X5_useElement_J113
            intro y62_
            intro S26_76 eS26_76 y63_ y64_
            have f77_ : cfr [] [(45, 13)] S40_73 S26_76 := by rw [eS26_76]; exact cfr.oI y63_ (by decide)
            have t78_ : (qN S26_76 (qO S26_76 44 2) : Int) = (qN S40_73 (qO S40_73 44 2) : Int) := f77_.kL (j := 2) y62_ (y62_.2.1 _ finC_29).2.1 (y62_.ptr ptrC_18) (by decide) (by decide)
            have t79_ : (qI S26_76 44 13).toInt = ((qI S40_73 44 13) + (1 : Int32)).toInt := by rw [eS26_76, qI_wI, if_pos ⟨rfl, rfl⟩]
            have gO_ := g
            have g : ShC B S26_76 := ShC.ws y62_ g f77_ (by rw [eS26_76]; rfl) (by rw [eS26_76]; rfl) (by rw [eS26_76]; rfl) rfl rfl
            have m_ : McIk S26_76 := McIk.frg y62_ gO_ m_ f77_ rfl rfl rfl
            exact ⟨g, m_, trivial⟩
          · refine ⟨fun c80_ => ?_, fun c80_ => ?_⟩
            · unfold w_X5_useElement_J113
              intro y65_
              intro S26_81 eS26_81 y66_ y67_
              have f82_ : cfr [] [(45, 13)] S8_57 S26_81 := by rw [eS26_81]; exact cfr.oI y66_ (by decide)
              have t83_ : (qN S26_81 (qO S26_81 44 2) : Int) = (qN S8_57 (qO S8_57 44 2) : Int) := f82_.kL (j := 2) y65_ (y65_.2.1 _ finC_29).2.1 (y65_.ptr ptrC_18) (by decide) (by decide)
              have t84_ : (qI S26_81 44 13).toInt = ((qI S8_57 44 13) + (1 : Int32)).toInt := by rw [eS26_81, qI_wI, if_pos ⟨rfl, rfl⟩]
              have gO_ := g
              have g : ShC B S26_81 := ShC.ws y65_ g f82_ (by rw [eS26_81]; rfl) (by rw [eS26_81]; rfl) (by rw [eS26_81]; rfl) rfl rfl
              have m_ : McIk S26_81 := McIk.frg y65_ gO_ m_ f82_ rfl rfl rfl
              exact ⟨g, m_, trivial⟩
            · refine ⟨fun c85_ => ?_, fun c85_ => ?_⟩
              · unfold w_X5_useElement_J113
                intro y68_
                intro S26_86 eS26_86 y69_ y70_
                have f87_ : cfr [] [(45, 13)] S8_57 S26_86 := by rw [eS26_86]; exact cfr.oI y69_ (by decide)
                have t88_ : (qN S26_86 (qO S26_86 44 2) : Int) = (qN S8_57 (qO S8_57 44 2) : Int) := f87_.kL (j := 2) y68_ (y68_.2.1 _ finC_29).2.1 (y68_.ptr ptrC_18) (by decide) (by decide)
                have t89_ : (qI S26_86 44 13).toInt = ((qI S8_57 44 13) + (1 : Int32)).toInt := by rw [eS26_86, qI_wI, if_pos ⟨rfl, rfl⟩]
                have gO_ := g
                have g : ShC B S26_86 := ShC.ws y68_ g f87_ (by rw [eS26_86]; rfl) (by rw [eS26_86]; rfl) (by rw [eS26_86]; rfl) rfl rfl
                have m_ : McIk S26_86 := McIk.frg y68_ gO_ m_ f87_ rfl rfl rfl
                exact ⟨g, m_, trivial⟩
              · refine ⟨?_, ?_⟩
                · have s90_ := y47_.len9 (y47_.ref (y47_.ptr ptrC_18) (y47_.2.1 _ finC_29).2.1) (by decide)
                  have s91_ := m_.num
                  have n1_ := rgI a24_68
                  have n2_ := rgI x1
                  have n3_ := rgI a5_56
                  have n4_ := rgI (r2_53.toInt32)
                  have n5_ := rgI a10_60
                  have n6_ := rgI (r7_57.toInt32)
                  have n7_ := rgI (fX5_lengthOf S8_57 a10_60)
                  have n9_ := rgI (fX5_arrayStart S8_57 a10_60)
                  have n9_ := t_addD (a := (fX5_arrayStart S8_57 a10_60)) (b := a5_56)
                  have n10_ := rgI ((fX5_arrayStart S8_57 a10_60) + a5_56)
                  omega
                intro S34_92 eS34_92 y71_ y72_
                have f93_ : cfr [215] [] S8_57 S34_92 := by rw [eS34_92]; exact cfr.aI y71_ (by decide)
                have t94_ : (qI S34_92 44 13).toInt = (qI S8_57 44 13).toInt := congrArg Int32.toInt (f93_.kI (j := 13) (y47_.2.1 _ finC_29).2.1 (by decide) (by decide))
                have t95_ : (qN S34_92 (qO S34_92 44 2) : Int) = (qN S8_57 (qO S8_57 44 2) : Int) := f93_.kL (j := 2) y47_ (y47_.2.1 _ finC_29).2.1 (y47_.ptr ptrC_18) (by decide) (by decide)
                have gO_ := g
                have g : ShC B S34_92 := ShC.ws y47_ g f93_ (by rw [eS34_92]; rfl) (by rw [eS34_92]; rfl) (by rw [eS34_92]; rfl) rfl rfl
                have m_ : McIk S34_92 := McIk.frg y47_ gO_ m_ f93_ rfl rfl rfl
                unfold w_X5_useElement_J113
                intro y73_
                intro S26_96 eS26_96 y74_ y75_
                have f97_ : cfr [] [(45, 13)] S34_92 S26_96 := by rw [eS26_96]; exact cfr.oI y74_ (by decide)
                have t98_ : (qN S26_96 (qO S26_96 44 2) : Int) = (qN S34_92 (qO S34_92 44 2) : Int) := f97_.kL (j := 2) y73_ (y73_.2.1 _ finC_29).2.1 (y73_.ptr ptrC_18) (by decide) (by decide)
                have t99_ : (qI S26_96 44 13).toInt = ((qI S34_92 44 13) + (1 : Int32)).toInt := by rw [eS26_96, qI_wI, if_pos ⟨rfl, rfl⟩]
                have gO_ := g
                have g : ShC B S26_96 := ShC.ws y73_ g f97_ (by rw [eS26_96]; rfl) (by rw [eS26_96]; rfl) (by rw [eS26_96]; rfl) rfl rfl
                have m_ : McIk S26_96 := McIk.frg y73_ gO_ m_ f97_ rfl rfl rfl
                exact ⟨g, m_, trivial⟩
        · unfold w_X5_useElement_J54
          intro y76_
          refine ⟨_, frX5_raise y76_ (sgX5_raise y76_ g m_), ?_⟩
          intro S13_100 q77_ y78_ y79_
          have t101_ : (qN S13_100 (qO S13_100 44 2) : Int) = (qN S8_57 (qO S8_57 44 2) : Int) := q77_.2.kL (j := 2) y76_ (y76_.2.1 _ finC_29).2.1 (y76_.ptr ptrC_18) (by decide) (by decide)
          have gO_ := g
          have g : ShC B S13_100 := q77_.1.1
          have m_ : McIk S13_100 := q77_.1.2.1
          exact ⟨g, m_, trivial⟩
/-! makeArray -/
def LMa : List (Nat × Nat) := LMr ++ [(45, 0), (45, 12), (45, 11), (45, 8), (45, 9)]
theorem McIk.ma {K : List Nat} {F : List (Nat × Nat)} {S u : MS} (w : wfC S) (hr : ∀ p, qT S p = 47 → RwK S p) (hu : ∀ p, qT S p = 49 → UnK S p) (m : McIk S) (f : cfr K F S u) (hK : okM K = true) (hF : okL LMa F = true) (hA : okO F = true) (ha : MaI u) : McIk u := by
  have hR := okL_ap hF
  have g : ∀ j, LMa.contains (45, j) = true → qI u 44 j = qI S 44 j ∧ qR u 44 j = qR S 44 j := fun j hm => by
    have := f.2.2 44 j (by rw [w.k44]; decide) (by rw [w.k44]; exact okM_n hK (by decide)) (by rw [w.k44]; exact okL_n hF hm)
    exact ⟨this.1, this.2.2⟩
  obtain ⟨m1, m2, m3, m4, m5, m6, m7⟩ := m
  have k0 : qT S (qO S 44 0) = 49 := w.ref m1 w.k44
  have k12 : qT S (qO S 44 12) = 47 := w.ref m2 w.k44
  have o0 := qO_eq (g 0 (by decide)).2
  have o12 := qO_eq (g 12 (by decide)).2
  have L : ∀ j, LMa.contains (45, j) = true → (44, j) ∈ ptrC → qN u (qO u 44 j) = qN S (qO S 44 j) := fun j hm hp => by
    have p := w.ptr hp
    have kb := w.rf3 44 j _ p
    rw [qO_eq (g j hm).2, (f.1.1 _ (by rw [kb.1]; exact kb.2.1)).2]
  have e8 : qI u (qO S 44 0) 8 = qI S (qO S 44 0) 8 := (f.2.2 _ 8 (by rw [k0]; decide) (by rw [k0]; exact okM_n hK (by decide)) (by rw [k0]; exact okL_n hF (by decide))).1
  have k51 : qT S 51 = 217 := (w.2.1 _ finC_6).2.1
  have e51 : ∀ j, qI u 51 j = qI S 51 j := fun j => (f.2.2 51 j (by rw [k51]; decide) (by rw [k51]; exact okM_n hK (by decide)) (by rw [k51]; exact okO_n hA (by decide))).1
  refine ⟨by rw [o0, (g 0 (by decide)).2]; exact m1, by rw [o12, (g 12 (by decide)).2]; exact m2, by rw [o0]; exact m3.mv w hr k0 (hu _ k0) f hK hR hA, by rw [o12]; exact m4.mv w k12 (hr _ k12) f hK hR hA, ?_, ?_, ha⟩
  · rw [(g 11 (by decide)).1, L 8 (by decide) (by decide), L 9 (by decide) (by decide)]; exact m5
  · rw [(g 11 (by decide)).1, o0, e8]
    intro d hd
    rw [e51]
    exact m6 d hd
theorem sp_copyOfI {S : MS} {kd p : Nat} {x : Int32} {Q : Nat → MS → Prop} (hL : qN S p < 2147483648) (hp : p ≠ qn S) (hx : (qN S p : Int) < x.toInt) (hr : qn S + 1 ≤ KCC ∧ qu S + x.toInt.toNat ≤ KSC) (hQ : ∀ (f : Nat → Int32) (u : MS), u = wC (wN S kd x.toInt.toNat x.toInt.toNat) (qn S) f → wfC u → Q (qn S) u) : wJ7_copyOf_59c91 S kd p x Q := by
  have eL := toI_nat hL
  unfold wJ7_copyOf_59c91
  refine ⟨fun c => by rw [eL] at c; omega, fun c => ?_⟩
  refine ⟨⟨by omega, hr⟩, fun S5 e5 w5 => ?_⟩
  have e1 : qN S5 p = qN S p := by rw [e5]; exact if_neg hp
  have e2 : qN S5 (qn S) = x.toInt.toNat := by rw [e5]; exact if_pos rfl
  have cc : ¬ x < (Int32.ofNat (qN S p)) := fun q => by have := n_lt.mp q; rw [eL] at this; omega
  rw [e1, e2, if_neg cc]
  have z := li_0k
  refine ⟨acp_ok ⟨by omega, by omega, by omega, by omega, by omega⟩, fun S9 e9 k9 w9 => ?_⟩
  rw [e5] at e9
  exact hQ _ S9 e9 w9
/-- a row of numbers of an object is copied to a longer one -/
theorem cw_step {S u v : MS} {t n k p j kp : Nat} {fc : Nat → Int32} {K : List Nat} {F : List (Nat × Nat)} (w : wfC S) (d : dnC S) (hT : qn S < TXB) (hu : u = wC (wN S t n k) (qn S) fc) (hv : v = wR u p j (some (qn S))) (kp9 : qT u p = kp) (hF : F.contains (kp, j) = true) (ht : t ≠ 0 ∧ t ≠ 47 ∧ t ≠ 49 ∧ t ≠ 44) : cfr K F S v ∧ nkC S v ∧ dnC v ∧ qn v = qn S + 1 ∧ qu v = qu S + k ∧ qR v p j = some (qn S) ∧ qN v (qn S) = n := by
  have f1 : cfr K F S u := by rw [hu]; exact cfr.newC w hT
  have f2 : cfr K F u v := by rw [hv]; exact cfr.oR kp9 hF
  have n1 : nkC S (wN S t n k) := nkC.new d ht
  have eT : ∀ a, qT v a = qT (wN S t n k) a := fun a => by rw [hv, hu]; rfl
  have en : qn v = qn S + 1 := by rw [hv, hu]; rfl
  have n2 : nkC S v := ⟨fun a e => by rw [eT]; exact n1.1 a e, fun a l e => by rw [eT]; exact n1.2 a (by rw [en] at l; exact l) e⟩
  exact ⟨f1.tr f2, n2, fr_dn d (f1.tr f2).1 n2, en, by rw [hv, hu]; rfl, by rw [hv, qR_wR, if_pos ⟨rfl, rfl⟩], by rw [hv, hu]; exact wCN_n (f := fc)⟩
theorem sg_ma167 {B : Nat × Nat} {U : MS} {v1 : Int32} (g : ShC B U) (m : McIk U) (h : 0 ≤ v1.toInt ∧ (qI U 44 3).toInt + v1.toInt ≤ 20000) : w_X5_makeArray_J167 (fun u => ShC B u ∧ McIk u ∧ True) U v1 := by
  unfold w_X5_makeArray_J167
  intro w S19 e19 k19 w19
  have f : cfr [] [(45, 3)] U S19 := by rw [e19]; exact cfr.oI k19 rfl
  have G : ShC B S19 := ShC.ws w g f (by rw [e19]; rfl) (by rw [e19]; rfl) (by rw [e19]; rfl) rfl rfl
  have n := m.num.2
  have M : McIk S19 := McIk.ma w g.1 g.2.1 m f rfl rfl rfl (by
    unfold MaI
    have e3 : (qI S19 44 3).toInt = (qI U 44 3).toInt + v1.toInt := by rw [e19, qI_wI, if_pos ⟨rfl, rfl⟩, t_addk (by omega)]
    have e5 : qI S19 44 5 = qI U 44 5 := f.kI w.k44 (by decide) (by decide)
    have e4 : qN S19 (qO S19 44 4) = qN U (qO U 44 4) := by rw [e19]; rfl
    rw [e3, e5, e4]
    exact ⟨by omega, m.2.2.2.2.2.2.2⟩)
  refine ⟨_, frX5_push w19 (sfX5_push w19), ?_⟩
  rintro S21 ⟨_, f21⟩ w21 s21 S24 e24 k24 w24
  have G21 : ShC B S21 := ShC.ca w19 G f21 s21 w21 rfl rfl
  have M21 : McIk S21 := McIk.frg w19 G M f21 rfl rfl rfl
  have f24 : cfr [] [(45, 13)] S21 S24 := by rw [e24]; exact cfr.oI k24 rfl
  exact ⟨ShC.ws w21 G21 f24 (by rw [e24]; rfl) (by rw [e24]; rfl) (by rw [e24]; rfl) rfl rfl, McIk.frg w21 G21 M21 f24 rfl rfl rfl, trivial⟩
theorem sg_ma135 {B : Nat × Nat} : ∀ (n : Nat) {U : MS} {v1 v2 : Int32}, ShC B U → McIk U → 0 ≤ v1.toInt ∧ (qI U 44 3).toInt + v1.toInt ≤ 20000 → 0 ≤ v2.toInt → 2147483648 - v2.toInt < n → w_X5_makeArray_L135 (fun u => ShC B u ∧ McIk u ∧ True) n U v1 v2 := by
  intro n
  induction n with
  | zero => intro U v1 v2 g m h h0 hn; exfalso; have := rgI v2; omega
  | succ n ih =>
    intro U v1 v2 g m h h0 hn
    unfold w_X5_makeArray_L135
    intro w
    refine ⟨fun _ => sg_ma167 g m h, fun c => ⟨fun _ => sg_ma167 g m h, fun c2 => ⟨⟨h0, by omega⟩, fun S31 e31 k31 w31 a32 e32 => ?_⟩⟩⟩
    have f : cfr [215] [] U S31 := by rw [e31]; exact cfr.aI k31 rfl
    have l := w.len9 (w.ref (w.ptr (by decide : (44, 2) ∈ ptrC)) w.k44 : qT U (qO U 44 2) = 215) (by decide)
    have ea : a32.toInt = v2.toInt + 1 := by rw [e32, t_addk (by rw [lo_1k]; omega), lo_1k]
    have e3 : qI S31 44 3 = qI U 44 3 := f.kI w.k44 (by decide) (by decide)
    exact ih (ShC.ws w g f (by rw [e31]; rfl) (by rw [e31]; rfl) (by rw [e31]; rfl) rfl rfl) (McIk.frg w g m f rfl rfl rfl) (by rw [e3]; exact h) (by omega) (by omega)
theorem sg_ma117 {B : Nat × Nat} {U : MS} {v1 : Int32} (g : ShC B U) (m : McIk U) (h : 0 ≤ v1.toInt ∧ (qI U 44 3).toInt + v1.toInt ≤ 20000) : w_X5_makeArray_J117 (fun u => ShC B u ∧ McIk u ∧ True) U v1 := by
  unfold w_X5_makeArray_J117
  intro w
  have n := m.num.2
  refine ⟨by omega, fun S15 e15 k15 w15 a16 e16 => ⟨2147483650, ?_⟩⟩
  have f : cfr [216] [] U S15 := by rw [e15]; exact cfr.aI k15 rfl
  have e3 : qI S15 44 3 = qI U 44 3 := f.kI w.k44 (by decide) (by decide)
  have ea : a16.toInt = (qI U 44 3).toInt := by rw [e16, e3]
  exact sg_ma135 _ (ShC.ws w g f (by rw [e15]; rfl) (by rw [e15]; rfl) (by rw [e15]; rfl) rfl rfl) (McIk.frg w g m f rfl rfl rfl) (by rw [e3]; exact h) (by omega) (by omega)
theorem sg_ma78 {B : Nat × Nat} {U : MS} {v1 : Int32} (g : ShC B U) (m : McIk U) (h : 0 ≤ v1.toInt ∧ (qI U 44 3).toInt + v1.toInt ≤ 20000) : w_X5_makeArray_J78 (fun u => ShC B u ∧ McIk u ∧ True) U v1 := by
  unfold w_X5_makeArray_J78
  intro w
  have n := m.num.2
  have cp := g.cap
  have rm := g.rm
  have es : ((qI U 44 3) + v1).toInt = (qI U 44 3).toInt + v1.toInt := t_addk (by omega)
  rw [es]
  refine ⟨fun _ => sg_ma117 g m h, fun c k2 => ?_⟩
  have e2 := mul2_of (x := (qI U 44 3) + v1) (by omega)
  have ex : ∃ x : Int32, x = (if ((2 : Int32) * ((qI U 44 3) + v1)) < (20000 : Int32) then ((2 : Int32) * ((qI U 44 3) + v1)) else (20000 : Int32)) ∧ (qN U (qO U 44 2) : Int) < x.toInt ∧ x.toInt ≤ 20000 ∧ (x.toInt = 20000 ∨ 2 * (qN U (qO U 44 2) : Int) + 2 ≤ x.toInt) := by
    have l := li_20000
    by_cases c2 : ((2 : Int32) * ((qI U 44 3) + v1)) < (20000 : Int32)
    · have c3 := n_lt.mp c2
      exact ⟨_, by rw [if_pos c2], by omega, by omega, by omega⟩
    · have c3 : ¬ ((2 : Int32) * ((qI U 44 3) + v1)).toInt < (20000 : Int32).toInt := fun q => c2 (n_lt.mpr q)
      exact ⟨20000, by rw [if_neg c2], by omega, by omega, by omega⟩
  obtain ⟨x, e, x1, x2, x3⟩ := ex
  rw [← e]
  have hroom : qn U + 1 ≤ KCC ∧ qu U + x.toInt.toNat ≤ KSC := by
    unfold RmK PSc PNc at rm
    unfold CpK at cp
    have z : hp2 U = 0 := by unfold hp2; rw [if_neg (by omega)]
    omega
  have hT := KC_TX hroom.1
  have hne := w.ne hT k2 (by decide)
  refine ⟨_, sp_copyOfI (by omega) hne x1 hroom (Q := fun r u => r = qn U ∧ ∃ f, u = wC (wN U 215 x.toInt.toNat x.toInt.toNat) (qn U) f) (fun f u e _ => ⟨rfl, f, e⟩), ?_⟩
  rintro r S40 ⟨rfl, fc, e40⟩ w40 _ k40 S44 e44 k44 w44
  obtain ⟨f, nk, d, q1, u1, r1, l1⟩ := cw_step (K := []) (F := [(45, 2)]) w g.dn hT e40 e44 k44 rfl (by decide)
  have O := qO_of r1
  have G : ShC B S44 := ShC.g_mh w g f nk rfl (by rw [O, l1]; omega) (by rw [O, l1]; omega) (by rw [O, l1]; omega) (by omega) (by rw [O, l1]; omega)
  have e3 : qI S44 44 3 = qI U 44 3 := f.kI w.k44 (by decide) (by decide)
  exact sg_ma117 G (McIk.frg w g m f rfl rfl rfl) (by rw [e3]; exact h)
theorem sgX5_makeArray {B : Nat × Nat} {S : MS} {x1 : Int32} (w : wfC S) (g : ShC B S) (m : McIk S) : wX5_makeArray S x1 (fun u => ShC B u ∧ McIk u ∧ True) := by
  have n := m.num.2
  have cp := g.cap
  have rm := g.rm
  have J : w_X5_makeArray_J32 (fun u => ShC B u ∧ McIk u ∧ True) S := by
    unfold w_X5_makeArray_J32
    intro _ S2 e2 k2 w2
    have f : cfr [] [(45, 15)] S S2 := by rw [e2]; exact cfr.oI k2 rfl
    exact ⟨ShC.ws w g f (by rw [e2]; rfl) (by rw [e2]; rfl) (by rw [e2]; rfl) rfl rfl, McIk.frg w g m f rfl rfl rfl, trivial⟩
  have l2 := li_20000
  have es : ((20000 : Int32) - (qI S 44 3)).toInt = 20000 - (qI S 44 3).toInt := by rw [t_subk (by omega), l2]
  unfold wX5_makeArray
  rw [es]
  refine ⟨fun h0 => ⟨fun _ => J, fun c => ⟨fun c2 S7 e7 k7 w7 => ?_, fun _ => J⟩⟩, fun _ => ⟨_, sgX5_raise w g m, fun u q _ _ => q⟩⟩
  have f7 : cfr [] [(45, 5)] S S7 := by rw [e7]; exact cfr.oI k7 rfl
  have G7 : ShC B S7 := ShC.ws w g f7 (by rw [e7]; rfl) (by rw [e7]; rfl) (by rw [e7]; rfl) rfl rfl
  have a5 : (qI S7 44 5).toInt = (qI S 44 5).toInt + 1 := by rw [e7, qI_wI, if_pos ⟨rfl, rfl⟩, t_addk (by rw [li_1k]; omega), li_1k]
  have a3 : qI S7 44 3 = qI S 44 3 := f7.kI w.k44 (by decide) (by decide)
  have a4 : qN S7 (qO S7 44 4) = qN S (qO S 44 4) := by rw [e7]; rfl
  refine ⟨fun c3 => ?_, fun c3 k3 => ?_⟩
  · refine sg_ma78 G7 (McIk.ma w g.1 g.2.1 m f7 rfl rfl rfl ?_) (by rw [a3]; omega)
    unfold MaI
    rw [a5, a3, a4]
    rw [a4] at c3
    exact ⟨by omega, m.2.2.2.2.2.2.2⟩
  · have l9 := w7.len9 k3 (by decide)
    have eN := toI_nat (n := qN S7 (qO S7 44 4)) (by omega)
    have em : ((2 : Int32) * (Int32.ofNat (qN S7 (qO S7 44 4)))).toInt = 2 * qN S7 (qO S7 44 4) := by rw [t_mulk (by rw [li_2k, eN]; omega), li_2k, eN]
    have cp7 := G7.cap
    have rm7 := G7.rm
    have hin : qN S7 (qO S7 44 4) ∈ ([8, 16, 32, 64, 128, 256, 512] : List Nat) := by rw [a4]; exact m.2.2.2.2.2.2.2
    have h2 : ∀ z ∈ ([8, 16, 32, 64, 128, 256, 512] : List Nat), z ≤ 401 → 2 * z ≤ 512 ∧ 2 * z ∈ ([8, 16, 32, 64, 128, 256, 512] : List Nat) := by decide
    obtain ⟨hsz, hin2⟩ := h2 _ hin (by omega)
    have hroom : qn S7 + 1 ≤ KCC ∧ qu S7 + ((2 : Int32) * (Int32.ofNat (qN S7 (qO S7 44 4)))).toInt.toNat ≤ KSC := by
      rw [em]
      unfold RmK PSc PNc at rm7
      unfold CpK at cp7
      have z : hp2 S7 ≤ 20000 := by unfold hp2; split <;> omega
      omega
    have hT := KC_TX hroom.1
    have hne := w7.ne hT k3 (by decide)
    refine ⟨_, sp_copyOfI (by omega) hne (by omega) hroom (Q := fun r u => r = qn S7 ∧ ∃ f, u = wC (wN S7 216 (2 * qN S7 (qO S7 44 4)) (2 * qN S7 (qO S7 44 4))) (qn S7) f) (fun f u e _ => ⟨rfl, f, by rw [e, em]; congr 2⟩), ?_⟩
    rintro r S52 ⟨rfl, fc, e52⟩ w52 _ k52 S56 e56 k56 w56
    obtain ⟨f, nk, d, q1, u1, r1, l1⟩ := cw_step (K := []) (F := [(45, 4)]) w7 G7.dn hT e52 e56 k56 rfl (by decide)
    have O := qO_of r1
    have G : ShC B S56 := ShC.g_ma w7 G7 f nk rfl (by rw [O, l1]) (by omega) (by rw [O, l1]; omega) (by omega) (by rw [O, l1]; omega)
    have b3 : qI S56 44 3 = qI S7 44 3 := f.kI w7.k44 (by decide) (by decide)
    have b5 : qI S56 44 5 = qI S7 44 5 := f.kI w7.k44 (by decide) (by decide)
    refine sg_ma78 G (McIk.ma w g.1 g.2.1 m ((f7.mo rfl rfl).tr (f.mo rfl rfl) : cfr [] [(45, 5), (45, 4)] S S56) rfl rfl rfl ?_) (by rw [b3, a3]; omega)
    unfold MaI
    rw [b5, b3, a5, a3, O, l1]
    exact ⟨by omega, hin2⟩
set_option maxRecDepth 100000 in
theorem sgX5_useStage {B : Nat × Nat} {S : MS} {x1 : Int32} (hw : wfC S) (g : ShC B S) (m_ : McIk S) : wX5_useStage S x1 (fun u => ShC B u ∧ McIk u ∧ (True)) := by
  unfold wX5_useStage
  refine ⟨?_, ?_⟩
  · exact m_.p12
  refine ⟨?_, ?_⟩
  · exact (dd_X8_argAt hw g (hw.ref m_.p12 (hw.2.1 _ finC_29).2.1))
  intro a6_0 ea6_0 
  intro a7_1 ea7_1 
  have ga7_1 := congrArg Int32.toInt ea7_1
  refine ⟨fun c2_ => ?_, fun c2_ => ?_⟩
  · unfold w_X5_useStage_J190
    intro y1_
    refine ⟨_, frX5_useElement y1_ (sgX5_useElement y1_ g m_), ?_⟩
    intro S9_3 q2_ y3_ y4_
    have o4_ : qO S9_3 44 0 = qO S 44 0 := qO_eq (q2_.2.kO (y1_.2.1 _ finC_29).2.1 (by decide) (by decide))
    have t5_ : (qI S9_3 (qO S9_3 44 0) 8).toInt = (qI S (qO S 44 0) 8).toInt := by rw [o4_]; exact congrArg Int32.toInt (q2_.2.kI (j := 8) (y1_.ref m_.p0 (y1_.2.1 _ finC_29).2.1) (by decide) (by decide))
    have t6_ : (qI S9_3 (qO S9_3 44 0) 4).toInt = (qI S (qO S 44 0) 4).toInt := by rw [o4_]; exact congrArg Int32.toInt (q2_.2.kI (j := 4) (y1_.ref m_.p0 (y1_.2.1 _ finC_29).2.1) (by decide) (by decide))
    have t7_ : (qN S9_3 (qO S9_3 (qO S9_3 44 0) 13) : Int) = (qN S (qO S (qO S 44 0) 13) : Int) := by rw [o4_]; exact q2_.2.kL (j := 13) y1_ (y1_.ref m_.p0 (y1_.2.1 _ finC_29).2.1) (g.unit (y1_.ref m_.p0 (y1_.2.1 _ finC_29).2.1)).1.2.2.2.2.2.2.2.2 (by decide) (by decide)
    have t8_ : (qN S9_3 (qO S9_3 (qO S9_3 44 0) 9) : Int) = (qN S (qO S (qO S 44 0) 9) : Int) := by rw [o4_]; exact q2_.2.kL (j := 9) y1_ (y1_.ref m_.p0 (y1_.2.1 _ finC_29).2.1) (g.unit (y1_.ref m_.p0 (y1_.2.1 _ finC_29).2.1)).1.2.2.2.2.1 (by decide) (by decide)
    have t9_ : (qN S9_3 (qO S9_3 (qO S9_3 44 0) 5) : Int) = (qN S (qO S (qO S 44 0) 5) : Int) := by rw [o4_]; exact q2_.2.kL (j := 5) y1_ (y1_.ref m_.p0 (y1_.2.1 _ finC_29).2.1) (g.unit (y1_.ref m_.p0 (y1_.2.1 _ finC_29).2.1)).1.2.1 (by decide) (by decide)
    have gO_ := g
    have g : ShC B S9_3 := q2_.1.1
    have m_ : McIk S9_3 := q2_.1.2.1
    exact ⟨g, m_, trivial⟩
  · refine ⟨fun c10_ => ?_, fun c10_ => ?_⟩
    · unfold w_X5_useStage_J190
      intro y5_
      refine ⟨_, frX5_useElement y5_ (sgX5_useElement y5_ g m_), ?_⟩
      intro S9_11 q6_ y7_ y8_
      have o12_ : qO S9_11 44 0 = qO S 44 0 := qO_eq (q6_.2.kO (y5_.2.1 _ finC_29).2.1 (by decide) (by decide))
      have t13_ : (qI S9_11 (qO S9_11 44 0) 8).toInt = (qI S (qO S 44 0) 8).toInt := by rw [o12_]; exact congrArg Int32.toInt (q6_.2.kI (j := 8) (y5_.ref m_.p0 (y5_.2.1 _ finC_29).2.1) (by decide) (by decide))
      have t14_ : (qI S9_11 (qO S9_11 44 0) 4).toInt = (qI S (qO S 44 0) 4).toInt := by rw [o12_]; exact congrArg Int32.toInt (q6_.2.kI (j := 4) (y5_.ref m_.p0 (y5_.2.1 _ finC_29).2.1) (by decide) (by decide))
      have t15_ : (qN S9_11 (qO S9_11 (qO S9_11 44 0) 13) : Int) = (qN S (qO S (qO S 44 0) 13) : Int) := by rw [o12_]; exact q6_.2.kL (j := 13) y5_ (y5_.ref m_.p0 (y5_.2.1 _ finC_29).2.1) (g.unit (y5_.ref m_.p0 (y5_.2.1 _ finC_29).2.1)).1.2.2.2.2.2.2.2.2 (by decide) (by decide)
      have t16_ : (qN S9_11 (qO S9_11 (qO S9_11 44 0) 9) : Int) = (qN S (qO S (qO S 44 0) 9) : Int) := by rw [o12_]; exact q6_.2.kL (j := 9) y5_ (y5_.ref m_.p0 (y5_.2.1 _ finC_29).2.1) (g.unit (y5_.ref m_.p0 (y5_.2.1 _ finC_29).2.1)).1.2.2.2.2.1 (by decide) (by decide)
      have t17_ : (qN S9_11 (qO S9_11 (qO S9_11 44 0) 5) : Int) = (qN S (qO S (qO S 44 0) 5) : Int) := by rw [o12_]; exact q6_.2.kL (j := 5) y5_ (y5_.ref m_.p0 (y5_.2.1 _ finC_29).2.1) (g.unit (y5_.ref m_.p0 (y5_.2.1 _ finC_29).2.1)).1.2.1 (by decide) (by decide)
      have gO_ := g
      have g : ShC B S9_11 := q6_.1.1
      have m_ : McIk S9_11 := q6_.1.2.1
      exact ⟨g, m_, trivial⟩
    · refine ⟨fun c18_ => ?_, fun c18_ => ?_⟩
      · refine ⟨?_, ?_⟩
        · exact m_.p0
        refine ⟨?_, ?_⟩
        · exact (dd_X10_kindOfField hw g (hw.ref m_.p0 (hw.2.1 _ finC_29).2.1))
        intro a16_19 ea16_19 
        have ga16_19 := congrArg Int32.toInt ea16_19
        refine ⟨?_, ?_⟩
        · exact (dd_X5_fieldAt hw g)
        intro a20_20 ea20_20 
        refine ⟨_, frX5_push_ hw (sfX5_push_ hw ), ?_⟩
        intro S22_21 q9_ y10_ y11_
        have o22_ : qO S22_21 44 0 = qO S 44 0 := qO_eq (q9_.2.kO (hw.2.1 _ finC_29).2.1 (by decide) (by decide))
        have t23_ : (qI S22_21 (qO S22_21 44 0) 8).toInt = (qI S (qO S 44 0) 8).toInt := by rw [o22_]; exact congrArg Int32.toInt (q9_.2.kI (j := 8) (hw.ref m_.p0 (hw.2.1 _ finC_29).2.1) (by decide) (by decide))
        have t24_ : (qI S22_21 (qO S22_21 44 0) 4).toInt = (qI S (qO S 44 0) 4).toInt := by rw [o22_]; exact congrArg Int32.toInt (q9_.2.kI (j := 4) (hw.ref m_.p0 (hw.2.1 _ finC_29).2.1) (by decide) (by decide))
        have t25_ : (qN S22_21 (qO S22_21 (qO S22_21 44 0) 13) : Int) = (qN S (qO S (qO S 44 0) 13) : Int) := by rw [o22_]; exact q9_.2.kL (j := 13) hw (hw.ref m_.p0 (hw.2.1 _ finC_29).2.1) (g.unit (hw.ref m_.p0 (hw.2.1 _ finC_29).2.1)).1.2.2.2.2.2.2.2.2 (by decide) (by decide)
        have t26_ : (qN S22_21 (qO S22_21 (qO S22_21 44 0) 9) : Int) = (qN S (qO S (qO S 44 0) 9) : Int) := by rw [o22_]; exact q9_.2.kL (j := 9) hw (hw.ref m_.p0 (hw.2.1 _ finC_29).2.1) (g.unit (hw.ref m_.p0 (hw.2.1 _ finC_29).2.1)).1.2.2.2.2.1 (by decide) (by decide)
        have t27_ : (qN S22_21 (qO S22_21 (qO S22_21 44 0) 5) : Int) = (qN S (qO S (qO S 44 0) 5) : Int) := by rw [o22_]; exact q9_.2.kL (j := 5) hw (hw.ref m_.p0 (hw.2.1 _ finC_29).2.1) (g.unit (hw.ref m_.p0 (hw.2.1 _ finC_29).2.1)).1.2.1 (by decide) (by decide)
        have o28_ : qO S22_21 44 12 = qO S 44 12 := qO_eq (q9_.2.kO (hw.2.1 _ finC_29).2.1 (by decide) (by decide))
        have t29_ : (qI S22_21 (qO S22_21 44 12) 4).toInt = (qI S (qO S 44 12) 4).toInt := by rw [o28_]; exact congrArg Int32.toInt (q9_.2.kI (j := 4) (hw.ref m_.p12 (hw.2.1 _ finC_29).2.1) (by decide) (by decide))
        have t30_ : (qI S22_21 (qO S22_21 44 12) 9).toInt = (qI S (qO S 44 12) 9).toInt := by rw [o28_]; exact congrArg Int32.toInt (q9_.2.kI (j := 9) (hw.ref m_.p12 (hw.2.1 _ finC_29).2.1) (by decide) (by decide))
        have t31_ : (qI S22_21 (qO S22_21 44 12) 2).toInt = (qI S (qO S 44 12) 2).toInt := by rw [o28_]; exact congrArg Int32.toInt (q9_.2.kI (j := 2) (hw.ref m_.p12 (hw.2.1 _ finC_29).2.1) (by decide) (by decide))
        have t32_ : (qN S22_21 (qO S22_21 (qO S22_21 44 12) 1) : Int) = (qN S (qO S (qO S 44 12) 1) : Int) := by rw [o28_]; exact q9_.2.kL (j := 1) hw (hw.ref m_.p12 (hw.2.1 _ finC_29).2.1) (g.row (hw.ref m_.p12 (hw.2.1 _ finC_29).2.1)).1.2.1 (by decide) (by decide)
        have t33_ : (qN S22_21 (qO S22_21 (qO S22_21 44 12) 8) : Int) = (qN S (qO S (qO S 44 12) 8) : Int) := by rw [o28_]; exact q9_.2.kL (j := 8) hw (hw.ref m_.p12 (hw.2.1 _ finC_29).2.1) (g.row (hw.ref m_.p12 (hw.2.1 _ finC_29).2.1)).1.2.2.2.2.2.2 (by decide) (by decide)
        have t34_ : (qN S22_21 (qO S22_21 (qO S22_21 44 12) 7) : Int) = (qN S (qO S (qO S 44 12) 7) : Int) := by rw [o28_]; exact q9_.2.kL (j := 7) hw (hw.ref m_.p12 (hw.2.1 _ finC_29).2.1) (g.row (hw.ref m_.p12 (hw.2.1 _ finC_29).2.1)).1.2.2.2.2.2.1 (by decide) (by decide)
        have t35_ : (qN S22_21 (qO S22_21 (qO S22_21 44 12) 0) : Int) = (qN S (qO S (qO S 44 12) 0) : Int) := by rw [o28_]; exact q9_.2.kL (j := 0) hw (hw.ref m_.p12 (hw.2.1 _ finC_29).2.1) (g.row (hw.ref m_.p12 (hw.2.1 _ finC_29).2.1)).1.1 (by decide) (by decide)
        have t36_ : (qN S22_21 (qO S22_21 (qO S22_21 44 12) 6) : Int) = (qN S (qO S (qO S 44 12) 6) : Int) := by rw [o28_]; exact q9_.2.kL (j := 6) hw (hw.ref m_.p12 (hw.2.1 _ finC_29).2.1) (g.row (hw.ref m_.p12 (hw.2.1 _ finC_29).2.1)).1.2.2.2.2.1 (by decide) (by decide)
        have t37_ : (qN S22_21 (qO S22_21 (qO S22_21 44 12) 3) : Int) = (qN S (qO S (qO S 44 12) 3) : Int) := by rw [o28_]; exact q9_.2.kL (j := 3) hw (hw.ref m_.p12 (hw.2.1 _ finC_29).2.1) (g.row (hw.ref m_.p12 (hw.2.1 _ finC_29).2.1)).1.2.2.1 (by decide) (by decide)
        have t38_ : (qN S22_21 (qO S22_21 (qO S22_21 44 12) 5) : Int) = (qN S (qO S (qO S 44 12) 5) : Int) := by rw [o28_]; exact q9_.2.kL (j := 5) hw (hw.ref m_.p12 (hw.2.1 _ finC_29).2.1) (g.row (hw.ref m_.p12 (hw.2.1 _ finC_29).2.1)).1.2.2.2.1 (by decide) (by decide)
        have t39_ : (qI S22_21 44 13).toInt = (qI S 44 13).toInt := congrArg Int32.toInt (q9_.2.kI (j := 13) (hw.2.1 _ finC_29).2.1 (by decide) (by decide))
        have gO_ := g
        have g : ShC B S22_21 := ShC.ca hw g q9_.2 y11_ y10_ rfl rfl
        have m_ : McIk S22_21 := McIk.frg hw gO_ m_ q9_.2 rfl rfl rfl
        intro S25_40 eS25_40 y12_ y13_
        have f41_ : cfr [] [(45, 13)] S22_21 S25_40 := by rw [eS25_40]; exact cfr.oI y12_ (by decide)
        have o42_ : qO S25_40 44 0 = qO S22_21 44 0 := qO_eq (f41_.kO (y10_.2.1 _ finC_29).2.1 (by decide) (by decide))
        have t43_ : (qI S25_40 (qO S25_40 44 0) 8).toInt = (qI S22_21 (qO S22_21 44 0) 8).toInt := by rw [o42_]; exact congrArg Int32.toInt (f41_.kI (j := 8) (y10_.ref m_.p0 (y10_.2.1 _ finC_29).2.1) (by decide) (by decide))
        have t44_ : (qI S25_40 (qO S25_40 44 0) 4).toInt = (qI S22_21 (qO S22_21 44 0) 4).toInt := by rw [o42_]; exact congrArg Int32.toInt (f41_.kI (j := 4) (y10_.ref m_.p0 (y10_.2.1 _ finC_29).2.1) (by decide) (by decide))
        have t45_ : (qN S25_40 (qO S25_40 (qO S25_40 44 0) 13) : Int) = (qN S22_21 (qO S22_21 (qO S22_21 44 0) 13) : Int) := by rw [o42_]; exact f41_.kL (j := 13) y10_ (y10_.ref m_.p0 (y10_.2.1 _ finC_29).2.1) (g.unit (y10_.ref m_.p0 (y10_.2.1 _ finC_29).2.1)).1.2.2.2.2.2.2.2.2 (by decide) (by decide)
        have t46_ : (qN S25_40 (qO S25_40 (qO S25_40 44 0) 9) : Int) = (qN S22_21 (qO S22_21 (qO S22_21 44 0) 9) : Int) := by rw [o42_]; exact f41_.kL (j := 9) y10_ (y10_.ref m_.p0 (y10_.2.1 _ finC_29).2.1) (g.unit (y10_.ref m_.p0 (y10_.2.1 _ finC_29).2.1)).1.2.2.2.2.1 (by decide) (by decide)
        have t47_ : (qN S25_40 (qO S25_40 (qO S25_40 44 0) 5) : Int) = (qN S22_21 (qO S22_21 (qO S22_21 44 0) 5) : Int) := by rw [o42_]; exact f41_.kL (j := 5) y10_ (y10_.ref m_.p0 (y10_.2.1 _ finC_29).2.1) (g.unit (y10_.ref m_.p0 (y10_.2.1 _ finC_29).2.1)).1.2.1 (by decide) (by decide)
        have o48_ : qO S25_40 44 12 = qO S22_21 44 12 := qO_eq (f41_.kO (y10_.2.1 _ finC_29).2.1 (by decide) (by decide))
        have t49_ : (qI S25_40 (qO S25_40 44 12) 4).toInt = (qI S22_21 (qO S22_21 44 12) 4).toInt := by rw [o48_]; exact congrArg Int32.toInt (f41_.kI (j := 4) (y10_.ref m_.p12 (y10_.2.1 _ finC_29).2.1) (by decide) (by decide))
        have t50_ : (qI S25_40 (qO S25_40 44 12) 9).toInt = (qI S22_21 (qO S22_21 44 12) 9).toInt := by rw [o48_]; exact congrArg Int32.toInt (f41_.kI (j := 9) (y10_.ref m_.p12 (y10_.2.1 _ finC_29).2.1) (by decide) (by decide))
        have t51_ : (qI S25_40 (qO S25_40 44 12) 2).toInt = (qI S22_21 (qO S22_21 44 12) 2).toInt := by rw [o48_]; exact congrArg Int32.toInt (f41_.kI (j := 2) (y10_.ref m_.p12 (y10_.2.1 _ finC_29).2.1) (by decide) (by decide))
        have t52_ : (qN S25_40 (qO S25_40 (qO S25_40 44 12) 1) : Int) = (qN S22_21 (qO S22_21 (qO S22_21 44 12) 1) : Int) := by rw [o48_]; exact f41_.kL (j := 1) y10_ (y10_.ref m_.p12 (y10_.2.1 _ finC_29).2.1) (g.row (y10_.ref m_.p12 (y10_.2.1 _ finC_29).2.1)).1.2.1 (by decide) (by decide)
        have t53_ : (qN S25_40 (qO S25_40 (qO S25_40 44 12) 8) : Int) = (qN S22_21 (qO S22_21 (qO S22_21 44 12) 8) : Int) := by rw [o48_]; exact f41_.kL (j := 8) y10_ (y10_.ref m_.p12 (y10_.2.1 _ finC_29).2.1) (g.row (y10_.ref m_.p12 (y10_.2.1 _ finC_29).2.1)).1.2.2.2.2.2.2 (by decide) (by decide)
        have t54_ : (qN S25_40 (qO S25_40 (qO S25_40 44 12) 7) : Int) = (qN S22_21 (qO S22_21 (qO S22_21 44 12) 7) : Int) := by rw [o48_]; exact f41_.kL (j := 7) y10_ (y10_.ref m_.p12 (y10_.2.1 _ finC_29).2.1) (g.row (y10_.ref m_.p12 (y10_.2.1 _ finC_29).2.1)).1.2.2.2.2.2.1 (by decide) (by decide)
        have t55_ : (qN S25_40 (qO S25_40 (qO S25_40 44 12) 0) : Int) = (qN S22_21 (qO S22_21 (qO S22_21 44 12) 0) : Int) := by rw [o48_]; exact f41_.kL (j := 0) y10_ (y10_.ref m_.p12 (y10_.2.1 _ finC_29).2.1) (g.row (y10_.ref m_.p12 (y10_.2.1 _ finC_29).2.1)).1.1 (by decide) (by decide)
        have t56_ : (qN S25_40 (qO S25_40 (qO S25_40 44 12) 6) : Int) = (qN S22_21 (qO S22_21 (qO S22_21 44 12) 6) : Int) := by rw [o48_]; exact f41_.kL (j := 6) y10_ (y10_.ref m_.p12 (y10_.2.1 _ finC_29).2.1) (g.row (y10_.ref m_.p12 (y10_.2.1 _ finC_29).2.1)).1.2.2.2.2.1 (by decide) (by decide)
        have t57_ : (qN S25_40 (qO S25_40 (qO S25_40 44 12) 3) : Int) = (qN S22_21 (qO S22_21 (qO S22_21 44 12) 3) : Int) := by rw [o48_]; exact f41_.kL (j := 3) y10_ (y10_.ref m_.p12 (y10_.2.1 _ finC_29).2.1) (g.row (y10_.ref m_.p12 (y10_.2.1 _ finC_29).2.1)).1.2.2.1 (by decide) (by decide)
        have t58_ : (qN S25_40 (qO S25_40 (qO S25_40 44 12) 5) : Int) = (qN S22_21 (qO S22_21 (qO S22_21 44 12) 5) : Int) := by rw [o48_]; exact f41_.kL (j := 5) y10_ (y10_.ref m_.p12 (y10_.2.1 _ finC_29).2.1) (g.row (y10_.ref m_.p12 (y10_.2.1 _ finC_29).2.1)).1.2.2.2.1 (by decide) (by decide)
        have t59_ : (qI S25_40 44 19).toInt = (qI S22_21 44 19).toInt := congrArg Int32.toInt (f41_.kI (j := 19) (y10_.2.1 _ finC_29).2.1 (by decide) (by decide))
        have t60_ : (qI S25_40 44 13).toInt = ((qI S22_21 44 13) + (1 : Int32)).toInt := by rw [eS25_40, qI_wI, if_pos ⟨rfl, rfl⟩]
        have gO_ := g
        have g : ShC B S25_40 := ShC.ws y10_ g f41_ (by rw [eS25_40]; rfl) (by rw [eS25_40]; rfl) (by rw [eS25_40]; rfl) rfl rfl
        have m_ : McIk S25_40 := McIk.frg y10_ gO_ m_ f41_ rfl rfl rfl
        exact ⟨g, m_, trivial⟩
      · refine ⟨fun c61_ => ?_, fun c61_ => ?_⟩
        · refine ⟨?_, ?_⟩
          · exact m_.p0
          refine ⟨?_, ?_⟩
          · exact (dd_X10_kindOfField hw g (hw.ref m_.p0 (hw.2.1 _ finC_29).2.1))
          intro a31_62 ea31_62 
          have ga31_62 := congrArg Int32.toInt ea31_62
          refine ⟨_, frX5_pop_ hw (sfX5_pop_ hw ), ?_⟩
          intro r33_63 S34_63 q14_ y15_ y16_
          have o64_ : qO S34_63 44 0 = qO S 44 0 := qO_eq (q14_.2.kO (hw.2.1 _ finC_29).2.1 (by decide) (by decide))
          have t65_ : (qI S34_63 (qO S34_63 44 0) 8).toInt = (qI S (qO S 44 0) 8).toInt := by rw [o64_]; exact congrArg Int32.toInt (q14_.2.kI (j := 8) (hw.ref m_.p0 (hw.2.1 _ finC_29).2.1) (by decide) (by decide))
          have t66_ : (qI S34_63 (qO S34_63 44 0) 4).toInt = (qI S (qO S 44 0) 4).toInt := by rw [o64_]; exact congrArg Int32.toInt (q14_.2.kI (j := 4) (hw.ref m_.p0 (hw.2.1 _ finC_29).2.1) (by decide) (by decide))
          have t67_ : (qN S34_63 (qO S34_63 (qO S34_63 44 0) 13) : Int) = (qN S (qO S (qO S 44 0) 13) : Int) := by rw [o64_]; exact q14_.2.kL (j := 13) hw (hw.ref m_.p0 (hw.2.1 _ finC_29).2.1) (g.unit (hw.ref m_.p0 (hw.2.1 _ finC_29).2.1)).1.2.2.2.2.2.2.2.2 (by decide) (by decide)
          have t68_ : (qN S34_63 (qO S34_63 (qO S34_63 44 0) 9) : Int) = (qN S (qO S (qO S 44 0) 9) : Int) := by rw [o64_]; exact q14_.2.kL (j := 9) hw (hw.ref m_.p0 (hw.2.1 _ finC_29).2.1) (g.unit (hw.ref m_.p0 (hw.2.1 _ finC_29).2.1)).1.2.2.2.2.1 (by decide) (by decide)
          have t69_ : (qN S34_63 (qO S34_63 (qO S34_63 44 0) 5) : Int) = (qN S (qO S (qO S 44 0) 5) : Int) := by rw [o64_]; exact q14_.2.kL (j := 5) hw (hw.ref m_.p0 (hw.2.1 _ finC_29).2.1) (g.unit (hw.ref m_.p0 (hw.2.1 _ finC_29).2.1)).1.2.1 (by decide) (by decide)
          have o70_ : qO S34_63 44 12 = qO S 44 12 := qO_eq (q14_.2.kO (hw.2.1 _ finC_29).2.1 (by decide) (by decide))
          have t71_ : (qI S34_63 (qO S34_63 44 12) 4).toInt = (qI S (qO S 44 12) 4).toInt := by rw [o70_]; exact congrArg Int32.toInt (q14_.2.kI (j := 4) (hw.ref m_.p12 (hw.2.1 _ finC_29).2.1) (by decide) (by decide))
          have t72_ : (qI S34_63 (qO S34_63 44 12) 9).toInt = (qI S (qO S 44 12) 9).toInt := by rw [o70_]; exact congrArg Int32.toInt (q14_.2.kI (j := 9) (hw.ref m_.p12 (hw.2.1 _ finC_29).2.1) (by decide) (by decide))
          have t73_ : (qI S34_63 (qO S34_63 44 12) 2).toInt = (qI S (qO S 44 12) 2).toInt := by rw [o70_]; exact congrArg Int32.toInt (q14_.2.kI (j := 2) (hw.ref m_.p12 (hw.2.1 _ finC_29).2.1) (by decide) (by decide))
          have t74_ : (qN S34_63 (qO S34_63 (qO S34_63 44 12) 1) : Int) = (qN S (qO S (qO S 44 12) 1) : Int) := by rw [o70_]; exact q14_.2.kL (j := 1) hw (hw.ref m_.p12 (hw.2.1 _ finC_29).2.1) (g.row (hw.ref m_.p12 (hw.2.1 _ finC_29).2.1)).1.2.1 (by decide) (by decide)
          have t75_ : (qN S34_63 (qO S34_63 (qO S34_63 44 12) 8) : Int) = (qN S (qO S (qO S 44 12) 8) : Int) := by rw [o70_]; exact q14_.2.kL (j := 8) hw (hw.ref m_.p12 (hw.2.1 _ finC_29).2.1) (g.row (hw.ref m_.p12 (hw.2.1 _ finC_29).2.1)).1.2.2.2.2.2.2 (by decide) (by decide)
          have t76_ : (qN S34_63 (qO S34_63 (qO S34_63 44 12) 7) : Int) = (qN S (qO S (qO S 44 12) 7) : Int) := by rw [o70_]; exact q14_.2.kL (j := 7) hw (hw.ref m_.p12 (hw.2.1 _ finC_29).2.1) (g.row (hw.ref m_.p12 (hw.2.1 _ finC_29).2.1)).1.2.2.2.2.2.1 (by decide) (by decide)
          have t77_ : (qN S34_63 (qO S34_63 (qO S34_63 44 12) 0) : Int) = (qN S (qO S (qO S 44 12) 0) : Int) := by rw [o70_]; exact q14_.2.kL (j := 0) hw (hw.ref m_.p12 (hw.2.1 _ finC_29).2.1) (g.row (hw.ref m_.p12 (hw.2.1 _ finC_29).2.1)).1.1 (by decide) (by decide)
          have t78_ : (qN S34_63 (qO S34_63 (qO S34_63 44 12) 6) : Int) = (qN S (qO S (qO S 44 12) 6) : Int) := by rw [o70_]; exact q14_.2.kL (j := 6) hw (hw.ref m_.p12 (hw.2.1 _ finC_29).2.1) (g.row (hw.ref m_.p12 (hw.2.1 _ finC_29).2.1)).1.2.2.2.2.1 (by decide) (by decide)
          have t79_ : (qN S34_63 (qO S34_63 (qO S34_63 44 12) 3) : Int) = (qN S (qO S (qO S 44 12) 3) : Int) := by rw [o70_]; exact q14_.2.kL (j := 3) hw (hw.ref m_.p12 (hw.2.1 _ finC_29).2.1) (g.row (hw.ref m_.p12 (hw.2.1 _ finC_29).2.1)).1.2.2.1 (by decide) (by decide)
          have t80_ : (qN S34_63 (qO S34_63 (qO S34_63 44 12) 5) : Int) = (qN S (qO S (qO S 44 12) 5) : Int) := by rw [o70_]; exact q14_.2.kL (j := 5) hw (hw.ref m_.p12 (hw.2.1 _ finC_29).2.1) (g.row (hw.ref m_.p12 (hw.2.1 _ finC_29).2.1)).1.2.2.2.1 (by decide) (by decide)
          have t81_ : (qI S34_63 44 13).toInt = (qI S 44 13).toInt := congrArg Int32.toInt (q14_.2.kI (j := 13) (hw.2.1 _ finC_29).2.1 (by decide) (by decide))
          have gO_ := g
          have g : ShC B S34_63 := ShC.ca hw g q14_.2 y16_ y15_ rfl rfl
          have m_ : McIk S34_63 := McIk.frg hw gO_ m_ q14_.2 rfl rfl rfl
          refine ⟨_, frX5_setField y15_ (sfX5_setField y15_ ), ?_⟩
          intro S37_82 q17_ y18_ y19_
          have o83_ : qO S37_82 44 0 = qO S34_63 44 0 := qO_eq (q17_.2.kO (y15_.2.1 _ finC_29).2.1 (by decide) (by decide))
          have t84_ : (qI S37_82 (qO S37_82 44 0) 8).toInt = (qI S34_63 (qO S34_63 44 0) 8).toInt := by rw [o83_]; exact congrArg Int32.toInt (q17_.2.kI (j := 8) (y15_.ref m_.p0 (y15_.2.1 _ finC_29).2.1) (by decide) (by decide))
          have t85_ : (qI S37_82 (qO S37_82 44 0) 4).toInt = (qI S34_63 (qO S34_63 44 0) 4).toInt := by rw [o83_]; exact congrArg Int32.toInt (q17_.2.kI (j := 4) (y15_.ref m_.p0 (y15_.2.1 _ finC_29).2.1) (by decide) (by decide))
          have t86_ : (qN S37_82 (qO S37_82 (qO S37_82 44 0) 13) : Int) = (qN S34_63 (qO S34_63 (qO S34_63 44 0) 13) : Int) := by rw [o83_]; exact q17_.2.kL (j := 13) y15_ (y15_.ref m_.p0 (y15_.2.1 _ finC_29).2.1) (g.unit (y15_.ref m_.p0 (y15_.2.1 _ finC_29).2.1)).1.2.2.2.2.2.2.2.2 (by decide) (by decide)
          have t87_ : (qN S37_82 (qO S37_82 (qO S37_82 44 0) 9) : Int) = (qN S34_63 (qO S34_63 (qO S34_63 44 0) 9) : Int) := by rw [o83_]; exact q17_.2.kL (j := 9) y15_ (y15_.ref m_.p0 (y15_.2.1 _ finC_29).2.1) (g.unit (y15_.ref m_.p0 (y15_.2.1 _ finC_29).2.1)).1.2.2.2.2.1 (by decide) (by decide)
          have t88_ : (qN S37_82 (qO S37_82 (qO S37_82 44 0) 5) : Int) = (qN S34_63 (qO S34_63 (qO S34_63 44 0) 5) : Int) := by rw [o83_]; exact q17_.2.kL (j := 5) y15_ (y15_.ref m_.p0 (y15_.2.1 _ finC_29).2.1) (g.unit (y15_.ref m_.p0 (y15_.2.1 _ finC_29).2.1)).1.2.1 (by decide) (by decide)
          have o89_ : qO S37_82 44 12 = qO S34_63 44 12 := qO_eq (q17_.2.kO (y15_.2.1 _ finC_29).2.1 (by decide) (by decide))
          have t90_ : (qI S37_82 (qO S37_82 44 12) 4).toInt = (qI S34_63 (qO S34_63 44 12) 4).toInt := by rw [o89_]; exact congrArg Int32.toInt (q17_.2.kI (j := 4) (y15_.ref m_.p12 (y15_.2.1 _ finC_29).2.1) (by decide) (by decide))
          have t91_ : (qI S37_82 (qO S37_82 44 12) 9).toInt = (qI S34_63 (qO S34_63 44 12) 9).toInt := by rw [o89_]; exact congrArg Int32.toInt (q17_.2.kI (j := 9) (y15_.ref m_.p12 (y15_.2.1 _ finC_29).2.1) (by decide) (by decide))
          have t92_ : (qI S37_82 (qO S37_82 44 12) 2).toInt = (qI S34_63 (qO S34_63 44 12) 2).toInt := by rw [o89_]; exact congrArg Int32.toInt (q17_.2.kI (j := 2) (y15_.ref m_.p12 (y15_.2.1 _ finC_29).2.1) (by decide) (by decide))
          have t93_ : (qN S37_82 (qO S37_82 (qO S37_82 44 12) 1) : Int) = (qN S34_63 (qO S34_63 (qO S34_63 44 12) 1) : Int) := by rw [o89_]; exact q17_.2.kL (j := 1) y15_ (y15_.ref m_.p12 (y15_.2.1 _ finC_29).2.1) (g.row (y15_.ref m_.p12 (y15_.2.1 _ finC_29).2.1)).1.2.1 (by decide) (by decide)
          have t94_ : (qN S37_82 (qO S37_82 (qO S37_82 44 12) 8) : Int) = (qN S34_63 (qO S34_63 (qO S34_63 44 12) 8) : Int) := by rw [o89_]; exact q17_.2.kL (j := 8) y15_ (y15_.ref m_.p12 (y15_.2.1 _ finC_29).2.1) (g.row (y15_.ref m_.p12 (y15_.2.1 _ finC_29).2.1)).1.2.2.2.2.2.2 (by decide) (by decide)
          have t95_ : (qN S37_82 (qO S37_82 (qO S37_82 44 12) 7) : Int) = (qN S34_63 (qO S34_63 (qO S34_63 44 12) 7) : Int) := by rw [o89_]; exact q17_.2.kL (j := 7) y15_ (y15_.ref m_.p12 (y15_.2.1 _ finC_29).2.1) (g.row (y15_.ref m_.p12 (y15_.2.1 _ finC_29).2.1)).1.2.2.2.2.2.1 (by decide) (by decide)
          have t96_ : (qN S37_82 (qO S37_82 (qO S37_82 44 12) 0) : Int) = (qN S34_63 (qO S34_63 (qO S34_63 44 12) 0) : Int) := by rw [o89_]; exact q17_.2.kL (j := 0) y15_ (y15_.ref m_.p12 (y15_.2.1 _ finC_29).2.1) (g.row (y15_.ref m_.p12 (y15_.2.1 _ finC_29).2.1)).1.1 (by decide) (by decide)
          have t97_ : (qN S37_82 (qO S37_82 (qO S37_82 44 12) 6) : Int) = (qN S34_63 (qO S34_63 (qO S34_63 44 12) 6) : Int) := by rw [o89_]; exact q17_.2.kL (j := 6) y15_ (y15_.ref m_.p12 (y15_.2.1 _ finC_29).2.1) (g.row (y15_.ref m_.p12 (y15_.2.1 _ finC_29).2.1)).1.2.2.2.2.1 (by decide) (by decide)
          have t98_ : (qN S37_82 (qO S37_82 (qO S37_82 44 12) 3) : Int) = (qN S34_63 (qO S34_63 (qO S34_63 44 12) 3) : Int) := by rw [o89_]; exact q17_.2.kL (j := 3) y15_ (y15_.ref m_.p12 (y15_.2.1 _ finC_29).2.1) (g.row (y15_.ref m_.p12 (y15_.2.1 _ finC_29).2.1)).1.2.2.1 (by decide) (by decide)
          have t99_ : (qN S37_82 (qO S37_82 (qO S37_82 44 12) 5) : Int) = (qN S34_63 (qO S34_63 (qO S34_63 44 12) 5) : Int) := by rw [o89_]; exact q17_.2.kL (j := 5) y15_ (y15_.ref m_.p12 (y15_.2.1 _ finC_29).2.1) (g.row (y15_.ref m_.p12 (y15_.2.1 _ finC_29).2.1)).1.2.2.2.1 (by decide) (by decide)
          have t100_ : (qI S37_82 44 13).toInt = (qI S34_63 44 13).toInt := congrArg Int32.toInt (q17_.2.kI (j := 13) (y15_.2.1 _ finC_29).2.1 (by decide) (by decide))
          have gO_ := g
          have g : ShC B S37_82 := ShC.ca y15_ g q17_.2 y19_ y18_ rfl rfl
          have m_ : McIk S37_82 := McIk.frg y15_ gO_ m_ q17_.2 rfl rfl rfl
          intro S40_101 eS40_101 y20_ y21_
          have f102_ : cfr [] [(45, 13)] S37_82 S40_101 := by rw [eS40_101]; exact cfr.oI y20_ (by decide)
          have o103_ : qO S40_101 44 0 = qO S37_82 44 0 := qO_eq (f102_.kO (y18_.2.1 _ finC_29).2.1 (by decide) (by decide))
          have t104_ : (qI S40_101 (qO S40_101 44 0) 8).toInt = (qI S37_82 (qO S37_82 44 0) 8).toInt := by rw [o103_]; exact congrArg Int32.toInt (f102_.kI (j := 8) (y18_.ref m_.p0 (y18_.2.1 _ finC_29).2.1) (by decide) (by decide))
          have t105_ : (qI S40_101 (qO S40_101 44 0) 4).toInt = (qI S37_82 (qO S37_82 44 0) 4).toInt := by rw [o103_]; exact congrArg Int32.toInt (f102_.kI (j := 4) (y18_.ref m_.p0 (y18_.2.1 _ finC_29).2.1) (by decide) (by decide))
          have t106_ : (qN S40_101 (qO S40_101 (qO S40_101 44 0) 13) : Int) = (qN S37_82 (qO S37_82 (qO S37_82 44 0) 13) : Int) := by rw [o103_]; exact f102_.kL (j := 13) y18_ (y18_.ref m_.p0 (y18_.2.1 _ finC_29).2.1) (g.unit (y18_.ref m_.p0 (y18_.2.1 _ finC_29).2.1)).1.2.2.2.2.2.2.2.2 (by decide) (by decide)
          have t107_ : (qN S40_101 (qO S40_101 (qO S40_101 44 0) 9) : Int) = (qN S37_82 (qO S37_82 (qO S37_82 44 0) 9) : Int) := by rw [o103_]; exact f102_.kL (j := 9) y18_ (y18_.ref m_.p0 (y18_.2.1 _ finC_29).2.1) (g.unit (y18_.ref m_.p0 (y18_.2.1 _ finC_29).2.1)).1.2.2.2.2.1 (by decide) (by decide)
          have t108_ : (qN S40_101 (qO S40_101 (qO S40_101 44 0) 5) : Int) = (qN S37_82 (qO S37_82 (qO S37_82 44 0) 5) : Int) := by rw [o103_]; exact f102_.kL (j := 5) y18_ (y18_.ref m_.p0 (y18_.2.1 _ finC_29).2.1) (g.unit (y18_.ref m_.p0 (y18_.2.1 _ finC_29).2.1)).1.2.1 (by decide) (by decide)
          have o109_ : qO S40_101 44 12 = qO S37_82 44 12 := qO_eq (f102_.kO (y18_.2.1 _ finC_29).2.1 (by decide) (by decide))
          have t110_ : (qI S40_101 (qO S40_101 44 12) 4).toInt = (qI S37_82 (qO S37_82 44 12) 4).toInt := by rw [o109_]; exact congrArg Int32.toInt (f102_.kI (j := 4) (y18_.ref m_.p12 (y18_.2.1 _ finC_29).2.1) (by decide) (by decide))
          have t111_ : (qI S40_101 (qO S40_101 44 12) 9).toInt = (qI S37_82 (qO S37_82 44 12) 9).toInt := by rw [o109_]; exact congrArg Int32.toInt (f102_.kI (j := 9) (y18_.ref m_.p12 (y18_.2.1 _ finC_29).2.1) (by decide) (by decide))
          have t112_ : (qI S40_101 (qO S40_101 44 12) 2).toInt = (qI S37_82 (qO S37_82 44 12) 2).toInt := by rw [o109_]; exact congrArg Int32.toInt (f102_.kI (j := 2) (y18_.ref m_.p12 (y18_.2.1 _ finC_29).2.1) (by decide) (by decide))
          have t113_ : (qN S40_101 (qO S40_101 (qO S40_101 44 12) 1) : Int) = (qN S37_82 (qO S37_82 (qO S37_82 44 12) 1) : Int) := by rw [o109_]; exact f102_.kL (j := 1) y18_ (y18_.ref m_.p12 (y18_.2.1 _ finC_29).2.1) (g.row (y18_.ref m_.p12 (y18_.2.1 _ finC_29).2.1)).1.2.1 (by decide) (by decide)
          have t114_ : (qN S40_101 (qO S40_101 (qO S40_101 44 12) 8) : Int) = (qN S37_82 (qO S37_82 (qO S37_82 44 12) 8) : Int) := by rw [o109_]; exact f102_.kL (j := 8) y18_ (y18_.ref m_.p12 (y18_.2.1 _ finC_29).2.1) (g.row (y18_.ref m_.p12 (y18_.2.1 _ finC_29).2.1)).1.2.2.2.2.2.2 (by decide) (by decide)
          have t115_ : (qN S40_101 (qO S40_101 (qO S40_101 44 12) 7) : Int) = (qN S37_82 (qO S37_82 (qO S37_82 44 12) 7) : Int) := by rw [o109_]; exact f102_.kL (j := 7) y18_ (y18_.ref m_.p12 (y18_.2.1 _ finC_29).2.1) (g.row (y18_.ref m_.p12 (y18_.2.1 _ finC_29).2.1)).1.2.2.2.2.2.1 (by decide) (by decide)
          have t116_ : (qN S40_101 (qO S40_101 (qO S40_101 44 12) 0) : Int) = (qN S37_82 (qO S37_82 (qO S37_82 44 12) 0) : Int) := by rw [o109_]; exact f102_.kL (j := 0) y18_ (y18_.ref m_.p12 (y18_.2.1 _ finC_29).2.1) (g.row (y18_.ref m_.p12 (y18_.2.1 _ finC_29).2.1)).1.1 (by decide) (by decide)
          have t117_ : (qN S40_101 (qO S40_101 (qO S40_101 44 12) 6) : Int) = (qN S37_82 (qO S37_82 (qO S37_82 44 12) 6) : Int) := by rw [o109_]; exact f102_.kL (j := 6) y18_ (y18_.ref m_.p12 (y18_.2.1 _ finC_29).2.1) (g.row (y18_.ref m_.p12 (y18_.2.1 _ finC_29).2.1)).1.2.2.2.2.1 (by decide) (by decide)
          have t118_ : (qN S40_101 (qO S40_101 (qO S40_101 44 12) 3) : Int) = (qN S37_82 (qO S37_82 (qO S37_82 44 12) 3) : Int) := by rw [o109_]; exact f102_.kL (j := 3) y18_ (y18_.ref m_.p12 (y18_.2.1 _ finC_29).2.1) (g.row (y18_.ref m_.p12 (y18_.2.1 _ finC_29).2.1)).1.2.2.1 (by decide) (by decide)
          have t119_ : (qN S40_101 (qO S40_101 (qO S40_101 44 12) 5) : Int) = (qN S37_82 (qO S37_82 (qO S37_82 44 12) 5) : Int) := by rw [o109_]; exact f102_.kL (j := 5) y18_ (y18_.ref m_.p12 (y18_.2.1 _ finC_29).2.1) (g.row (y18_.ref m_.p12 (y18_.2.1 _ finC_29).2.1)).1.2.2.2.1 (by decide) (by decide)
          have t120_ : (qI S40_101 44 19).toInt = (qI S37_82 44 19).toInt := congrArg Int32.toInt (f102_.kI (j := 19) (y18_.2.1 _ finC_29).2.1 (by decide) (by decide))
          have t121_ : (qI S40_101 44 13).toInt = ((qI S37_82 44 13) + (1 : Int32)).toInt := by rw [eS40_101, qI_wI, if_pos ⟨rfl, rfl⟩]
          have gO_ := g
          have g : ShC B S40_101 := ShC.ws y18_ g f102_ (by rw [eS40_101]; rfl) (by rw [eS40_101]; rfl) (by rw [eS40_101]; rfl) rfl rfl
          have m_ : McIk S40_101 := McIk.frg y18_ gO_ m_ f102_ rfl rfl rfl
          exact ⟨g, m_, trivial⟩
        · refine ⟨fun c122_ => ?_, fun c122_ => ?_⟩
          · refine ⟨_, frX5_enter hw (sgX5_enter hw g m_), ?_⟩
            intro S42_123 q22_ y23_ y24_
            have o124_ : qO S42_123 44 0 = qO S 44 0 := qO_eq (q22_.2.kO (hw.2.1 _ finC_29).2.1 (by decide) (by decide))
            have t125_ : (qI S42_123 (qO S42_123 44 0) 8).toInt = (qI S (qO S 44 0) 8).toInt := by rw [o124_]; exact congrArg Int32.toInt (q22_.2.kI (j := 8) (hw.ref m_.p0 (hw.2.1 _ finC_29).2.1) (by decide) (by decide))
            have t126_ : (qI S42_123 (qO S42_123 44 0) 4).toInt = (qI S (qO S 44 0) 4).toInt := by rw [o124_]; exact congrArg Int32.toInt (q22_.2.kI (j := 4) (hw.ref m_.p0 (hw.2.1 _ finC_29).2.1) (by decide) (by decide))
            have t127_ : (qN S42_123 (qO S42_123 (qO S42_123 44 0) 13) : Int) = (qN S (qO S (qO S 44 0) 13) : Int) := by rw [o124_]; exact q22_.2.kL (j := 13) hw (hw.ref m_.p0 (hw.2.1 _ finC_29).2.1) (g.unit (hw.ref m_.p0 (hw.2.1 _ finC_29).2.1)).1.2.2.2.2.2.2.2.2 (by decide) (by decide)
            have t128_ : (qN S42_123 (qO S42_123 (qO S42_123 44 0) 9) : Int) = (qN S (qO S (qO S 44 0) 9) : Int) := by rw [o124_]; exact q22_.2.kL (j := 9) hw (hw.ref m_.p0 (hw.2.1 _ finC_29).2.1) (g.unit (hw.ref m_.p0 (hw.2.1 _ finC_29).2.1)).1.2.2.2.2.1 (by decide) (by decide)
            have t129_ : (qN S42_123 (qO S42_123 (qO S42_123 44 0) 5) : Int) = (qN S (qO S (qO S 44 0) 5) : Int) := by rw [o124_]; exact q22_.2.kL (j := 5) hw (hw.ref m_.p0 (hw.2.1 _ finC_29).2.1) (g.unit (hw.ref m_.p0 (hw.2.1 _ finC_29).2.1)).1.2.1 (by decide) (by decide)
            have gO_ := g
            have g : ShC B S42_123 := q22_.1.1
            have m_ : McIk S42_123 := q22_.1.2.1
            exact ⟨g, m_, trivial⟩
          · refine ⟨fun c130_ => ?_, fun c130_ => ?_⟩
            · refine ⟨_, frX5_pop hw (sfX5_pop hw ), ?_⟩
              intro r45_131 S46_131 q25_ y26_ y27_
              have o132_ : qO S46_131 44 0 = qO S 44 0 := qO_eq (q25_.2.kO (hw.2.1 _ finC_29).2.1 (by decide) (by decide))
              have t133_ : (qI S46_131 (qO S46_131 44 0) 8).toInt = (qI S (qO S 44 0) 8).toInt := by rw [o132_]; exact congrArg Int32.toInt (q25_.2.kI (j := 8) (hw.ref m_.p0 (hw.2.1 _ finC_29).2.1) (by decide) (by decide))
              have t134_ : (qI S46_131 (qO S46_131 44 0) 4).toInt = (qI S (qO S 44 0) 4).toInt := by rw [o132_]; exact congrArg Int32.toInt (q25_.2.kI (j := 4) (hw.ref m_.p0 (hw.2.1 _ finC_29).2.1) (by decide) (by decide))
              have t135_ : (qN S46_131 (qO S46_131 (qO S46_131 44 0) 13) : Int) = (qN S (qO S (qO S 44 0) 13) : Int) := by rw [o132_]; exact q25_.2.kL (j := 13) hw (hw.ref m_.p0 (hw.2.1 _ finC_29).2.1) (g.unit (hw.ref m_.p0 (hw.2.1 _ finC_29).2.1)).1.2.2.2.2.2.2.2.2 (by decide) (by decide)
              have t136_ : (qN S46_131 (qO S46_131 (qO S46_131 44 0) 9) : Int) = (qN S (qO S (qO S 44 0) 9) : Int) := by rw [o132_]; exact q25_.2.kL (j := 9) hw (hw.ref m_.p0 (hw.2.1 _ finC_29).2.1) (g.unit (hw.ref m_.p0 (hw.2.1 _ finC_29).2.1)).1.2.2.2.2.1 (by decide) (by decide)
              have t137_ : (qN S46_131 (qO S46_131 (qO S46_131 44 0) 5) : Int) = (qN S (qO S (qO S 44 0) 5) : Int) := by rw [o132_]; exact q25_.2.kL (j := 5) hw (hw.ref m_.p0 (hw.2.1 _ finC_29).2.1) (g.unit (hw.ref m_.p0 (hw.2.1 _ finC_29).2.1)).1.2.1 (by decide) (by decide)
              have o138_ : qO S46_131 44 12 = qO S 44 12 := qO_eq (q25_.2.kO (hw.2.1 _ finC_29).2.1 (by decide) (by decide))
              have t139_ : (qI S46_131 (qO S46_131 44 12) 4).toInt = (qI S (qO S 44 12) 4).toInt := by rw [o138_]; exact congrArg Int32.toInt (q25_.2.kI (j := 4) (hw.ref m_.p12 (hw.2.1 _ finC_29).2.1) (by decide) (by decide))
              have t140_ : (qI S46_131 (qO S46_131 44 12) 9).toInt = (qI S (qO S 44 12) 9).toInt := by rw [o138_]; exact congrArg Int32.toInt (q25_.2.kI (j := 9) (hw.ref m_.p12 (hw.2.1 _ finC_29).2.1) (by decide) (by decide))
              have t141_ : (qI S46_131 (qO S46_131 44 12) 2).toInt = (qI S (qO S 44 12) 2).toInt := by rw [o138_]; exact congrArg Int32.toInt (q25_.2.kI (j := 2) (hw.ref m_.p12 (hw.2.1 _ finC_29).2.1) (by decide) (by decide))
              have t142_ : (qN S46_131 (qO S46_131 (qO S46_131 44 12) 1) : Int) = (qN S (qO S (qO S 44 12) 1) : Int) := by rw [o138_]; exact q25_.2.kL (j := 1) hw (hw.ref m_.p12 (hw.2.1 _ finC_29).2.1) (g.row (hw.ref m_.p12 (hw.2.1 _ finC_29).2.1)).1.2.1 (by decide) (by decide)
              have t143_ : (qN S46_131 (qO S46_131 (qO S46_131 44 12) 8) : Int) = (qN S (qO S (qO S 44 12) 8) : Int) := by rw [o138_]; exact q25_.2.kL (j := 8) hw (hw.ref m_.p12 (hw.2.1 _ finC_29).2.1) (g.row (hw.ref m_.p12 (hw.2.1 _ finC_29).2.1)).1.2.2.2.2.2.2 (by decide) (by decide)
              have t144_ : (qN S46_131 (qO S46_131 (qO S46_131 44 12) 7) : Int) = (qN S (qO S (qO S 44 12) 7) : Int) := by rw [o138_]; exact q25_.2.kL (j := 7) hw (hw.ref m_.p12 (hw.2.1 _ finC_29).2.1) (g.row (hw.ref m_.p12 (hw.2.1 _ finC_29).2.1)).1.2.2.2.2.2.1 (by decide) (by decide)
              have t145_ : (qN S46_131 (qO S46_131 (qO S46_131 44 12) 0) : Int) = (qN S (qO S (qO S 44 12) 0) : Int) := by rw [o138_]; exact q25_.2.kL (j := 0) hw (hw.ref m_.p12 (hw.2.1 _ finC_29).2.1) (g.row (hw.ref m_.p12 (hw.2.1 _ finC_29).2.1)).1.1 (by decide) (by decide)
              have t146_ : (qN S46_131 (qO S46_131 (qO S46_131 44 12) 6) : Int) = (qN S (qO S (qO S 44 12) 6) : Int) := by rw [o138_]; exact q25_.2.kL (j := 6) hw (hw.ref m_.p12 (hw.2.1 _ finC_29).2.1) (g.row (hw.ref m_.p12 (hw.2.1 _ finC_29).2.1)).1.2.2.2.2.1 (by decide) (by decide)
              have t147_ : (qN S46_131 (qO S46_131 (qO S46_131 44 12) 3) : Int) = (qN S (qO S (qO S 44 12) 3) : Int) := by rw [o138_]; exact q25_.2.kL (j := 3) hw (hw.ref m_.p12 (hw.2.1 _ finC_29).2.1) (g.row (hw.ref m_.p12 (hw.2.1 _ finC_29).2.1)).1.2.2.1 (by decide) (by decide)
              have t148_ : (qN S46_131 (qO S46_131 (qO S46_131 44 12) 5) : Int) = (qN S (qO S (qO S 44 12) 5) : Int) := by rw [o138_]; exact q25_.2.kL (j := 5) hw (hw.ref m_.p12 (hw.2.1 _ finC_29).2.1) (g.row (hw.ref m_.p12 (hw.2.1 _ finC_29).2.1)).1.2.2.2.1 (by decide) (by decide)
              have t149_ : (qI S46_131 44 13).toInt = (qI S 44 13).toInt := congrArg Int32.toInt (q25_.2.kI (j := 13) (hw.2.1 _ finC_29).2.1 (by decide) (by decide))
              have gO_ := g
              have g : ShC B S46_131 := ShC.ca hw g q25_.2 y27_ y26_ rfl rfl
              have m_ : McIk S46_131 := McIk.frg hw gO_ m_ q25_.2 rfl rfl rfl
              refine ⟨_, frX5_makeArray y26_ (sgX5_makeArray y26_ g m_), ?_⟩
              intro S49_150 q28_ y29_ y30_
              have o151_ : qO S49_150 44 0 = qO S46_131 44 0 := qO_eq (q28_.2.kO (y26_.2.1 _ finC_29).2.1 (by decide) (by decide))
              have t152_ : (qI S49_150 (qO S49_150 44 0) 8).toInt = (qI S46_131 (qO S46_131 44 0) 8).toInt := by rw [o151_]; exact congrArg Int32.toInt (q28_.2.kI (j := 8) (y26_.ref m_.p0 (y26_.2.1 _ finC_29).2.1) (by decide) (by decide))
              have t153_ : (qI S49_150 (qO S49_150 44 0) 4).toInt = (qI S46_131 (qO S46_131 44 0) 4).toInt := by rw [o151_]; exact congrArg Int32.toInt (q28_.2.kI (j := 4) (y26_.ref m_.p0 (y26_.2.1 _ finC_29).2.1) (by decide) (by decide))
              have t154_ : (qN S49_150 (qO S49_150 (qO S49_150 44 0) 13) : Int) = (qN S46_131 (qO S46_131 (qO S46_131 44 0) 13) : Int) := by rw [o151_]; exact q28_.2.kL (j := 13) y26_ (y26_.ref m_.p0 (y26_.2.1 _ finC_29).2.1) (g.unit (y26_.ref m_.p0 (y26_.2.1 _ finC_29).2.1)).1.2.2.2.2.2.2.2.2 (by decide) (by decide)
              have t155_ : (qN S49_150 (qO S49_150 (qO S49_150 44 0) 9) : Int) = (qN S46_131 (qO S46_131 (qO S46_131 44 0) 9) : Int) := by rw [o151_]; exact q28_.2.kL (j := 9) y26_ (y26_.ref m_.p0 (y26_.2.1 _ finC_29).2.1) (g.unit (y26_.ref m_.p0 (y26_.2.1 _ finC_29).2.1)).1.2.2.2.2.1 (by decide) (by decide)
              have t156_ : (qN S49_150 (qO S49_150 (qO S49_150 44 0) 5) : Int) = (qN S46_131 (qO S46_131 (qO S46_131 44 0) 5) : Int) := by rw [o151_]; exact q28_.2.kL (j := 5) y26_ (y26_.ref m_.p0 (y26_.2.1 _ finC_29).2.1) (g.unit (y26_.ref m_.p0 (y26_.2.1 _ finC_29).2.1)).1.2.1 (by decide) (by decide)
              have gO_ := g
              have g : ShC B S49_150 := q28_.1.1
              have m_ : McIk S49_150 := q28_.1.2.1
              exact ⟨g, m_, trivial⟩
            · refine ⟨fun c157_ => ?_, fun c157_ => ?_⟩
              · refine ⟨_, frX5_pop hw (sfX5_pop hw ), ?_⟩
                intro r53_158 S54_158 q31_ y32_ y33_
                have o159_ : qO S54_158 44 0 = qO S 44 0 := qO_eq (q31_.2.kO (hw.2.1 _ finC_29).2.1 (by decide) (by decide))
                have t160_ : (qI S54_158 (qO S54_158 44 0) 8).toInt = (qI S (qO S 44 0) 8).toInt := by rw [o159_]; exact congrArg Int32.toInt (q31_.2.kI (j := 8) (hw.ref m_.p0 (hw.2.1 _ finC_29).2.1) (by decide) (by decide))
                have t161_ : (qI S54_158 (qO S54_158 44 0) 4).toInt = (qI S (qO S 44 0) 4).toInt := by rw [o159_]; exact congrArg Int32.toInt (q31_.2.kI (j := 4) (hw.ref m_.p0 (hw.2.1 _ finC_29).2.1) (by decide) (by decide))
                have t162_ : (qN S54_158 (qO S54_158 (qO S54_158 44 0) 13) : Int) = (qN S (qO S (qO S 44 0) 13) : Int) := by rw [o159_]; exact q31_.2.kL (j := 13) hw (hw.ref m_.p0 (hw.2.1 _ finC_29).2.1) (g.unit (hw.ref m_.p0 (hw.2.1 _ finC_29).2.1)).1.2.2.2.2.2.2.2.2 (by decide) (by decide)
                have t163_ : (qN S54_158 (qO S54_158 (qO S54_158 44 0) 9) : Int) = (qN S (qO S (qO S 44 0) 9) : Int) := by rw [o159_]; exact q31_.2.kL (j := 9) hw (hw.ref m_.p0 (hw.2.1 _ finC_29).2.1) (g.unit (hw.ref m_.p0 (hw.2.1 _ finC_29).2.1)).1.2.2.2.2.1 (by decide) (by decide)
                have t164_ : (qN S54_158 (qO S54_158 (qO S54_158 44 0) 5) : Int) = (qN S (qO S (qO S 44 0) 5) : Int) := by rw [o159_]; exact q31_.2.kL (j := 5) hw (hw.ref m_.p0 (hw.2.1 _ finC_29).2.1) (g.unit (hw.ref m_.p0 (hw.2.1 _ finC_29).2.1)).1.2.1 (by decide) (by decide)
                have o165_ : qO S54_158 44 12 = qO S 44 12 := qO_eq (q31_.2.kO (hw.2.1 _ finC_29).2.1 (by decide) (by decide))
                have t166_ : (qI S54_158 (qO S54_158 44 12) 4).toInt = (qI S (qO S 44 12) 4).toInt := by rw [o165_]; exact congrArg Int32.toInt (q31_.2.kI (j := 4) (hw.ref m_.p12 (hw.2.1 _ finC_29).2.1) (by decide) (by decide))
                have t167_ : (qI S54_158 (qO S54_158 44 12) 9).toInt = (qI S (qO S 44 12) 9).toInt := by rw [o165_]; exact congrArg Int32.toInt (q31_.2.kI (j := 9) (hw.ref m_.p12 (hw.2.1 _ finC_29).2.1) (by decide) (by decide))
                have t168_ : (qI S54_158 (qO S54_158 44 12) 2).toInt = (qI S (qO S 44 12) 2).toInt := by rw [o165_]; exact congrArg Int32.toInt (q31_.2.kI (j := 2) (hw.ref m_.p12 (hw.2.1 _ finC_29).2.1) (by decide) (by decide))
                have t169_ : (qN S54_158 (qO S54_158 (qO S54_158 44 12) 1) : Int) = (qN S (qO S (qO S 44 12) 1) : Int) := by rw [o165_]; exact q31_.2.kL (j := 1) hw (hw.ref m_.p12 (hw.2.1 _ finC_29).2.1) (g.row (hw.ref m_.p12 (hw.2.1 _ finC_29).2.1)).1.2.1 (by decide) (by decide)
                have t170_ : (qN S54_158 (qO S54_158 (qO S54_158 44 12) 8) : Int) = (qN S (qO S (qO S 44 12) 8) : Int) := by rw [o165_]; exact q31_.2.kL (j := 8) hw (hw.ref m_.p12 (hw.2.1 _ finC_29).2.1) (g.row (hw.ref m_.p12 (hw.2.1 _ finC_29).2.1)).1.2.2.2.2.2.2 (by decide) (by decide)
                have t171_ : (qN S54_158 (qO S54_158 (qO S54_158 44 12) 7) : Int) = (qN S (qO S (qO S 44 12) 7) : Int) := by rw [o165_]; exact q31_.2.kL (j := 7) hw (hw.ref m_.p12 (hw.2.1 _ finC_29).2.1) (g.row (hw.ref m_.p12 (hw.2.1 _ finC_29).2.1)).1.2.2.2.2.2.1 (by decide) (by decide)
                have t172_ : (qN S54_158 (qO S54_158 (qO S54_158 44 12) 0) : Int) = (qN S (qO S (qO S 44 12) 0) : Int) := by rw [o165_]; exact q31_.2.kL (j := 0) hw (hw.ref m_.p12 (hw.2.1 _ finC_29).2.1) (g.row (hw.ref m_.p12 (hw.2.1 _ finC_29).2.1)).1.1 (by decide) (by decide)
                have t173_ : (qN S54_158 (qO S54_158 (qO S54_158 44 12) 6) : Int) = (qN S (qO S (qO S 44 12) 6) : Int) := by rw [o165_]; exact q31_.2.kL (j := 6) hw (hw.ref m_.p12 (hw.2.1 _ finC_29).2.1) (g.row (hw.ref m_.p12 (hw.2.1 _ finC_29).2.1)).1.2.2.2.2.1 (by decide) (by decide)
                have t174_ : (qN S54_158 (qO S54_158 (qO S54_158 44 12) 3) : Int) = (qN S (qO S (qO S 44 12) 3) : Int) := by rw [o165_]; exact q31_.2.kL (j := 3) hw (hw.ref m_.p12 (hw.2.1 _ finC_29).2.1) (g.row (hw.ref m_.p12 (hw.2.1 _ finC_29).2.1)).1.2.2.1 (by decide) (by decide)
                have t175_ : (qN S54_158 (qO S54_158 (qO S54_158 44 12) 5) : Int) = (qN S (qO S (qO S 44 12) 5) : Int) := by rw [o165_]; exact q31_.2.kL (j := 5) hw (hw.ref m_.p12 (hw.2.1 _ finC_29).2.1) (g.row (hw.ref m_.p12 (hw.2.1 _ finC_29).2.1)).1.2.2.2.1 (by decide) (by decide)
                have t176_ : (qI S54_158 44 13).toInt = (qI S 44 13).toInt := congrArg Int32.toInt (q31_.2.kI (j := 13) (hw.2.1 _ finC_29).2.1 (by decide) (by decide))
                have gO_ := g
                have g : ShC B S54_158 := ShC.ca hw g q31_.2 y33_ y32_ rfl rfl
                have m_ : McIk S54_158 := McIk.frg hw gO_ m_ q31_.2 rfl rfl rfl
                refine ⟨_, frX5_tellLength y32_ (sgX5_tellLength y32_ g m_), ?_⟩
                intro S57_177 q34_ y35_ y36_
                have o178_ : qO S57_177 44 0 = qO S54_158 44 0 := qO_eq (q34_.2.kO (y32_.2.1 _ finC_29).2.1 (by decide) (by decide))
                have t179_ : (qI S57_177 (qO S57_177 44 0) 8).toInt = (qI S54_158 (qO S54_158 44 0) 8).toInt := by rw [o178_]; exact congrArg Int32.toInt (q34_.2.kI (j := 8) (y32_.ref m_.p0 (y32_.2.1 _ finC_29).2.1) (by decide) (by decide))
                have t180_ : (qI S57_177 (qO S57_177 44 0) 4).toInt = (qI S54_158 (qO S54_158 44 0) 4).toInt := by rw [o178_]; exact congrArg Int32.toInt (q34_.2.kI (j := 4) (y32_.ref m_.p0 (y32_.2.1 _ finC_29).2.1) (by decide) (by decide))
                have t181_ : (qN S57_177 (qO S57_177 (qO S57_177 44 0) 13) : Int) = (qN S54_158 (qO S54_158 (qO S54_158 44 0) 13) : Int) := by rw [o178_]; exact q34_.2.kL (j := 13) y32_ (y32_.ref m_.p0 (y32_.2.1 _ finC_29).2.1) (g.unit (y32_.ref m_.p0 (y32_.2.1 _ finC_29).2.1)).1.2.2.2.2.2.2.2.2 (by decide) (by decide)
                have t182_ : (qN S57_177 (qO S57_177 (qO S57_177 44 0) 9) : Int) = (qN S54_158 (qO S54_158 (qO S54_158 44 0) 9) : Int) := by rw [o178_]; exact q34_.2.kL (j := 9) y32_ (y32_.ref m_.p0 (y32_.2.1 _ finC_29).2.1) (g.unit (y32_.ref m_.p0 (y32_.2.1 _ finC_29).2.1)).1.2.2.2.2.1 (by decide) (by decide)
                have t183_ : (qN S57_177 (qO S57_177 (qO S57_177 44 0) 5) : Int) = (qN S54_158 (qO S54_158 (qO S54_158 44 0) 5) : Int) := by rw [o178_]; exact q34_.2.kL (j := 5) y32_ (y32_.ref m_.p0 (y32_.2.1 _ finC_29).2.1) (g.unit (y32_.ref m_.p0 (y32_.2.1 _ finC_29).2.1)).1.2.1 (by decide) (by decide)
                have gO_ := g
                have g : ShC B S57_177 := q34_.1.1
                have m_ : McIk S57_177 := q34_.1.2.1
                exact ⟨g, m_, trivial⟩
              · refine ⟨fun c184_ => ?_, fun c184_ => ?_⟩
                · refine ⟨_, frX5_pop hw (sfX5_pop hw ), ?_⟩
                  intro r60_185 S61_185 q37_ y38_ y39_
                  have o186_ : qO S61_185 44 0 = qO S 44 0 := qO_eq (q37_.2.kO (hw.2.1 _ finC_29).2.1 (by decide) (by decide))
                  have t187_ : (qI S61_185 (qO S61_185 44 0) 8).toInt = (qI S (qO S 44 0) 8).toInt := by rw [o186_]; exact congrArg Int32.toInt (q37_.2.kI (j := 8) (hw.ref m_.p0 (hw.2.1 _ finC_29).2.1) (by decide) (by decide))
                  have t188_ : (qI S61_185 (qO S61_185 44 0) 4).toInt = (qI S (qO S 44 0) 4).toInt := by rw [o186_]; exact congrArg Int32.toInt (q37_.2.kI (j := 4) (hw.ref m_.p0 (hw.2.1 _ finC_29).2.1) (by decide) (by decide))
                  have t189_ : (qN S61_185 (qO S61_185 (qO S61_185 44 0) 13) : Int) = (qN S (qO S (qO S 44 0) 13) : Int) := by rw [o186_]; exact q37_.2.kL (j := 13) hw (hw.ref m_.p0 (hw.2.1 _ finC_29).2.1) (g.unit (hw.ref m_.p0 (hw.2.1 _ finC_29).2.1)).1.2.2.2.2.2.2.2.2 (by decide) (by decide)
                  have t190_ : (qN S61_185 (qO S61_185 (qO S61_185 44 0) 9) : Int) = (qN S (qO S (qO S 44 0) 9) : Int) := by rw [o186_]; exact q37_.2.kL (j := 9) hw (hw.ref m_.p0 (hw.2.1 _ finC_29).2.1) (g.unit (hw.ref m_.p0 (hw.2.1 _ finC_29).2.1)).1.2.2.2.2.1 (by decide) (by decide)
                  have t191_ : (qN S61_185 (qO S61_185 (qO S61_185 44 0) 5) : Int) = (qN S (qO S (qO S 44 0) 5) : Int) := by rw [o186_]; exact q37_.2.kL (j := 5) hw (hw.ref m_.p0 (hw.2.1 _ finC_29).2.1) (g.unit (hw.ref m_.p0 (hw.2.1 _ finC_29).2.1)).1.2.1 (by decide) (by decide)
                  have o192_ : qO S61_185 44 12 = qO S 44 12 := qO_eq (q37_.2.kO (hw.2.1 _ finC_29).2.1 (by decide) (by decide))
                  have t193_ : (qI S61_185 (qO S61_185 44 12) 4).toInt = (qI S (qO S 44 12) 4).toInt := by rw [o192_]; exact congrArg Int32.toInt (q37_.2.kI (j := 4) (hw.ref m_.p12 (hw.2.1 _ finC_29).2.1) (by decide) (by decide))
                  have t194_ : (qI S61_185 (qO S61_185 44 12) 9).toInt = (qI S (qO S 44 12) 9).toInt := by rw [o192_]; exact congrArg Int32.toInt (q37_.2.kI (j := 9) (hw.ref m_.p12 (hw.2.1 _ finC_29).2.1) (by decide) (by decide))
                  have t195_ : (qI S61_185 (qO S61_185 44 12) 2).toInt = (qI S (qO S 44 12) 2).toInt := by rw [o192_]; exact congrArg Int32.toInt (q37_.2.kI (j := 2) (hw.ref m_.p12 (hw.2.1 _ finC_29).2.1) (by decide) (by decide))
                  have t196_ : (qN S61_185 (qO S61_185 (qO S61_185 44 12) 1) : Int) = (qN S (qO S (qO S 44 12) 1) : Int) := by rw [o192_]; exact q37_.2.kL (j := 1) hw (hw.ref m_.p12 (hw.2.1 _ finC_29).2.1) (g.row (hw.ref m_.p12 (hw.2.1 _ finC_29).2.1)).1.2.1 (by decide) (by decide)
                  have t197_ : (qN S61_185 (qO S61_185 (qO S61_185 44 12) 8) : Int) = (qN S (qO S (qO S 44 12) 8) : Int) := by rw [o192_]; exact q37_.2.kL (j := 8) hw (hw.ref m_.p12 (hw.2.1 _ finC_29).2.1) (g.row (hw.ref m_.p12 (hw.2.1 _ finC_29).2.1)).1.2.2.2.2.2.2 (by decide) (by decide)
                  have t198_ : (qN S61_185 (qO S61_185 (qO S61_185 44 12) 7) : Int) = (qN S (qO S (qO S 44 12) 7) : Int) := by rw [o192_]; exact q37_.2.kL (j := 7) hw (hw.ref m_.p12 (hw.2.1 _ finC_29).2.1) (g.row (hw.ref m_.p12 (hw.2.1 _ finC_29).2.1)).1.2.2.2.2.2.1 (by decide) (by decide)
                  have t199_ : (qN S61_185 (qO S61_185 (qO S61_185 44 12) 0) : Int) = (qN S (qO S (qO S 44 12) 0) : Int) := by rw [o192_]; exact q37_.2.kL (j := 0) hw (hw.ref m_.p12 (hw.2.1 _ finC_29).2.1) (g.row (hw.ref m_.p12 (hw.2.1 _ finC_29).2.1)).1.1 (by decide) (by decide)
                  have t200_ : (qN S61_185 (qO S61_185 (qO S61_185 44 12) 6) : Int) = (qN S (qO S (qO S 44 12) 6) : Int) := by rw [o192_]; exact q37_.2.kL (j := 6) hw (hw.ref m_.p12 (hw.2.1 _ finC_29).2.1) (g.row (hw.ref m_.p12 (hw.2.1 _ finC_29).2.1)).1.2.2.2.2.1 (by decide) (by decide)
                  have t201_ : (qN S61_185 (qO S61_185 (qO S61_185 44 12) 3) : Int) = (qN S (qO S (qO S 44 12) 3) : Int) := by rw [o192_]; exact q37_.2.kL (j := 3) hw (hw.ref m_.p12 (hw.2.1 _ finC_29).2.1) (g.row (hw.ref m_.p12 (hw.2.1 _ finC_29).2.1)).1.2.2.1 (by decide) (by decide)
                  have t202_ : (qN S61_185 (qO S61_185 (qO S61_185 44 12) 5) : Int) = (qN S (qO S (qO S 44 12) 5) : Int) := by rw [o192_]; exact q37_.2.kL (j := 5) hw (hw.ref m_.p12 (hw.2.1 _ finC_29).2.1) (g.row (hw.ref m_.p12 (hw.2.1 _ finC_29).2.1)).1.2.2.2.1 (by decide) (by decide)
                  have t203_ : (qI S61_185 44 13).toInt = (qI S 44 13).toInt := congrArg Int32.toInt (q37_.2.kI (j := 13) (hw.2.1 _ finC_29).2.1 (by decide) (by decide))
                  have gO_ := g
                  have g : ShC B S61_185 := ShC.ca hw g q37_.2 y39_ y38_ rfl rfl
                  have m_ : McIk S61_185 := McIk.frg hw gO_ m_ q37_.2 rfl rfl rfl
                  refine ⟨_, frX5_throwIt y38_ (sgX5_throwIt y38_ g m_), ?_⟩
                  intro S64_204 q40_ y41_ y42_
                  have o205_ : qO S64_204 44 0 = qO S61_185 44 0 := qO_eq (q40_.2.kO (y38_.2.1 _ finC_29).2.1 (by decide) (by decide))
                  have t206_ : (qI S64_204 (qO S64_204 44 0) 8).toInt = (qI S61_185 (qO S61_185 44 0) 8).toInt := by rw [o205_]; exact congrArg Int32.toInt (q40_.2.kI (j := 8) (y38_.ref m_.p0 (y38_.2.1 _ finC_29).2.1) (by decide) (by decide))
                  have t207_ : (qI S64_204 (qO S64_204 44 0) 4).toInt = (qI S61_185 (qO S61_185 44 0) 4).toInt := by rw [o205_]; exact congrArg Int32.toInt (q40_.2.kI (j := 4) (y38_.ref m_.p0 (y38_.2.1 _ finC_29).2.1) (by decide) (by decide))
                  have t208_ : (qN S64_204 (qO S64_204 (qO S64_204 44 0) 13) : Int) = (qN S61_185 (qO S61_185 (qO S61_185 44 0) 13) : Int) := by rw [o205_]; exact q40_.2.kL (j := 13) y38_ (y38_.ref m_.p0 (y38_.2.1 _ finC_29).2.1) (g.unit (y38_.ref m_.p0 (y38_.2.1 _ finC_29).2.1)).1.2.2.2.2.2.2.2.2 (by decide) (by decide)
                  have t209_ : (qN S64_204 (qO S64_204 (qO S64_204 44 0) 9) : Int) = (qN S61_185 (qO S61_185 (qO S61_185 44 0) 9) : Int) := by rw [o205_]; exact q40_.2.kL (j := 9) y38_ (y38_.ref m_.p0 (y38_.2.1 _ finC_29).2.1) (g.unit (y38_.ref m_.p0 (y38_.2.1 _ finC_29).2.1)).1.2.2.2.2.1 (by decide) (by decide)
                  have t210_ : (qN S64_204 (qO S64_204 (qO S64_204 44 0) 5) : Int) = (qN S61_185 (qO S61_185 (qO S61_185 44 0) 5) : Int) := by rw [o205_]; exact q40_.2.kL (j := 5) y38_ (y38_.ref m_.p0 (y38_.2.1 _ finC_29).2.1) (g.unit (y38_.ref m_.p0 (y38_.2.1 _ finC_29).2.1)).1.2.1 (by decide) (by decide)
                  have gO_ := g
                  have g : ShC B S64_204 := q40_.1.1
                  have m_ : McIk S64_204 := q40_.1.2.1
                  exact ⟨g, m_, trivial⟩
                · intro S67_211 eS67_211 y43_ y44_
                  have f212_ : cfr [] [(45, 19)] S S67_211 := by rw [eS67_211]; exact cfr.oI y43_ (by decide)
                  have o213_ : qO S67_211 44 0 = qO S 44 0 := qO_eq (f212_.kO (hw.2.1 _ finC_29).2.1 (by decide) (by decide))
                  have t214_ : (qI S67_211 (qO S67_211 44 0) 8).toInt = (qI S (qO S 44 0) 8).toInt := by rw [o213_]; exact congrArg Int32.toInt (f212_.kI (j := 8) (hw.ref m_.p0 (hw.2.1 _ finC_29).2.1) (by decide) (by decide))
                  have t215_ : (qI S67_211 (qO S67_211 44 0) 4).toInt = (qI S (qO S 44 0) 4).toInt := by rw [o213_]; exact congrArg Int32.toInt (f212_.kI (j := 4) (hw.ref m_.p0 (hw.2.1 _ finC_29).2.1) (by decide) (by decide))
                  have t216_ : (qN S67_211 (qO S67_211 (qO S67_211 44 0) 13) : Int) = (qN S (qO S (qO S 44 0) 13) : Int) := by rw [o213_]; exact f212_.kL (j := 13) hw (hw.ref m_.p0 (hw.2.1 _ finC_29).2.1) (g.unit (hw.ref m_.p0 (hw.2.1 _ finC_29).2.1)).1.2.2.2.2.2.2.2.2 (by decide) (by decide)
                  have t217_ : (qN S67_211 (qO S67_211 (qO S67_211 44 0) 9) : Int) = (qN S (qO S (qO S 44 0) 9) : Int) := by rw [o213_]; exact f212_.kL (j := 9) hw (hw.ref m_.p0 (hw.2.1 _ finC_29).2.1) (g.unit (hw.ref m_.p0 (hw.2.1 _ finC_29).2.1)).1.2.2.2.2.1 (by decide) (by decide)
                  have t218_ : (qN S67_211 (qO S67_211 (qO S67_211 44 0) 5) : Int) = (qN S (qO S (qO S 44 0) 5) : Int) := by rw [o213_]; exact f212_.kL (j := 5) hw (hw.ref m_.p0 (hw.2.1 _ finC_29).2.1) (g.unit (hw.ref m_.p0 (hw.2.1 _ finC_29).2.1)).1.2.1 (by decide) (by decide)
                  have o219_ : qO S67_211 44 12 = qO S 44 12 := qO_eq (f212_.kO (hw.2.1 _ finC_29).2.1 (by decide) (by decide))
                  have t220_ : (qI S67_211 (qO S67_211 44 12) 4).toInt = (qI S (qO S 44 12) 4).toInt := by rw [o219_]; exact congrArg Int32.toInt (f212_.kI (j := 4) (hw.ref m_.p12 (hw.2.1 _ finC_29).2.1) (by decide) (by decide))
                  have t221_ : (qI S67_211 (qO S67_211 44 12) 9).toInt = (qI S (qO S 44 12) 9).toInt := by rw [o219_]; exact congrArg Int32.toInt (f212_.kI (j := 9) (hw.ref m_.p12 (hw.2.1 _ finC_29).2.1) (by decide) (by decide))
                  have t222_ : (qI S67_211 (qO S67_211 44 12) 2).toInt = (qI S (qO S 44 12) 2).toInt := by rw [o219_]; exact congrArg Int32.toInt (f212_.kI (j := 2) (hw.ref m_.p12 (hw.2.1 _ finC_29).2.1) (by decide) (by decide))
                  have t223_ : (qN S67_211 (qO S67_211 (qO S67_211 44 12) 1) : Int) = (qN S (qO S (qO S 44 12) 1) : Int) := by rw [o219_]; exact f212_.kL (j := 1) hw (hw.ref m_.p12 (hw.2.1 _ finC_29).2.1) (g.row (hw.ref m_.p12 (hw.2.1 _ finC_29).2.1)).1.2.1 (by decide) (by decide)
                  have t224_ : (qN S67_211 (qO S67_211 (qO S67_211 44 12) 8) : Int) = (qN S (qO S (qO S 44 12) 8) : Int) := by rw [o219_]; exact f212_.kL (j := 8) hw (hw.ref m_.p12 (hw.2.1 _ finC_29).2.1) (g.row (hw.ref m_.p12 (hw.2.1 _ finC_29).2.1)).1.2.2.2.2.2.2 (by decide) (by decide)
                  have t225_ : (qN S67_211 (qO S67_211 (qO S67_211 44 12) 7) : Int) = (qN S (qO S (qO S 44 12) 7) : Int) := by rw [o219_]; exact f212_.kL (j := 7) hw (hw.ref m_.p12 (hw.2.1 _ finC_29).2.1) (g.row (hw.ref m_.p12 (hw.2.1 _ finC_29).2.1)).1.2.2.2.2.2.1 (by decide) (by decide)
                  have t226_ : (qN S67_211 (qO S67_211 (qO S67_211 44 12) 0) : Int) = (qN S (qO S (qO S 44 12) 0) : Int) := by rw [o219_]; exact f212_.kL (j := 0) hw (hw.ref m_.p12 (hw.2.1 _ finC_29).2.1) (g.row (hw.ref m_.p12 (hw.2.1 _ finC_29).2.1)).1.1 (by decide) (by decide)
                  have t227_ : (qN S67_211 (qO S67_211 (qO S67_211 44 12) 6) : Int) = (qN S (qO S (qO S 44 12) 6) : Int) := by rw [o219_]; exact f212_.kL (j := 6) hw (hw.ref m_.p12 (hw.2.1 _ finC_29).2.1) (g.row (hw.ref m_.p12 (hw.2.1 _ finC_29).2.1)).1.2.2.2.2.1 (by decide) (by decide)
                  have t228_ : (qN S67_211 (qO S67_211 (qO S67_211 44 12) 3) : Int) = (qN S (qO S (qO S 44 12) 3) : Int) := by rw [o219_]; exact f212_.kL (j := 3) hw (hw.ref m_.p12 (hw.2.1 _ finC_29).2.1) (g.row (hw.ref m_.p12 (hw.2.1 _ finC_29).2.1)).1.2.2.1 (by decide) (by decide)
                  have t229_ : (qN S67_211 (qO S67_211 (qO S67_211 44 12) 5) : Int) = (qN S (qO S (qO S 44 12) 5) : Int) := by rw [o219_]; exact f212_.kL (j := 5) hw (hw.ref m_.p12 (hw.2.1 _ finC_29).2.1) (g.row (hw.ref m_.p12 (hw.2.1 _ finC_29).2.1)).1.2.2.2.1 (by decide) (by decide)
                  have t230_ : (qI S67_211 44 13).toInt = (qI S 44 13).toInt := congrArg Int32.toInt (f212_.kI (j := 13) (hw.2.1 _ finC_29).2.1 (by decide) (by decide))
                  have t231_ : (qI S67_211 44 19).toInt = ((qI S 44 19) + (1 : Int32)).toInt := by rw [eS67_211, qI_wI, if_pos ⟨rfl, rfl⟩]
                  have gO_ := g
                  have g : ShC B S67_211 := ShC.ws hw g f212_ (by rw [eS67_211]; rfl) (by rw [eS67_211]; rfl) (by rw [eS67_211]; rfl) rfl rfl
                  have m_ : McIk S67_211 := McIk.frg hw gO_ m_ f212_ rfl rfl rfl
                  intro S69_232 eS69_232 y45_ y46_
                  have f233_ : cfr [] [(45, 13)] S67_211 S69_232 := by rw [eS69_232]; exact cfr.oI y45_ (by decide)
                  have o234_ : qO S69_232 44 0 = qO S67_211 44 0 := qO_eq (f233_.kO (y44_.2.1 _ finC_29).2.1 (by decide) (by decide))
                  have t235_ : (qI S69_232 (qO S69_232 44 0) 8).toInt = (qI S67_211 (qO S67_211 44 0) 8).toInt := by rw [o234_]; exact congrArg Int32.toInt (f233_.kI (j := 8) (y44_.ref m_.p0 (y44_.2.1 _ finC_29).2.1) (by decide) (by decide))
                  have t236_ : (qI S69_232 (qO S69_232 44 0) 4).toInt = (qI S67_211 (qO S67_211 44 0) 4).toInt := by rw [o234_]; exact congrArg Int32.toInt (f233_.kI (j := 4) (y44_.ref m_.p0 (y44_.2.1 _ finC_29).2.1) (by decide) (by decide))
                  have t237_ : (qN S69_232 (qO S69_232 (qO S69_232 44 0) 13) : Int) = (qN S67_211 (qO S67_211 (qO S67_211 44 0) 13) : Int) := by rw [o234_]; exact f233_.kL (j := 13) y44_ (y44_.ref m_.p0 (y44_.2.1 _ finC_29).2.1) (g.unit (y44_.ref m_.p0 (y44_.2.1 _ finC_29).2.1)).1.2.2.2.2.2.2.2.2 (by decide) (by decide)
                  have t238_ : (qN S69_232 (qO S69_232 (qO S69_232 44 0) 9) : Int) = (qN S67_211 (qO S67_211 (qO S67_211 44 0) 9) : Int) := by rw [o234_]; exact f233_.kL (j := 9) y44_ (y44_.ref m_.p0 (y44_.2.1 _ finC_29).2.1) (g.unit (y44_.ref m_.p0 (y44_.2.1 _ finC_29).2.1)).1.2.2.2.2.1 (by decide) (by decide)
                  have t239_ : (qN S69_232 (qO S69_232 (qO S69_232 44 0) 5) : Int) = (qN S67_211 (qO S67_211 (qO S67_211 44 0) 5) : Int) := by rw [o234_]; exact f233_.kL (j := 5) y44_ (y44_.ref m_.p0 (y44_.2.1 _ finC_29).2.1) (g.unit (y44_.ref m_.p0 (y44_.2.1 _ finC_29).2.1)).1.2.1 (by decide) (by decide)
                  have o240_ : qO S69_232 44 12 = qO S67_211 44 12 := qO_eq (f233_.kO (y44_.2.1 _ finC_29).2.1 (by decide) (by decide))
                  have t241_ : (qI S69_232 (qO S69_232 44 12) 4).toInt = (qI S67_211 (qO S67_211 44 12) 4).toInt := by rw [o240_]; exact congrArg Int32.toInt (f233_.kI (j := 4) (y44_.ref m_.p12 (y44_.2.1 _ finC_29).2.1) (by decide) (by decide))
                  have t242_ : (qI S69_232 (qO S69_232 44 12) 9).toInt = (qI S67_211 (qO S67_211 44 12) 9).toInt := by rw [o240_]; exact congrArg Int32.toInt (f233_.kI (j := 9) (y44_.ref m_.p12 (y44_.2.1 _ finC_29).2.1) (by decide) (by decide))
                  have t243_ : (qI S69_232 (qO S69_232 44 12) 2).toInt = (qI S67_211 (qO S67_211 44 12) 2).toInt := by rw [o240_]; exact congrArg Int32.toInt (f233_.kI (j := 2) (y44_.ref m_.p12 (y44_.2.1 _ finC_29).2.1) (by decide) (by decide))
                  have t244_ : (qN S69_232 (qO S69_232 (qO S69_232 44 12) 1) : Int) = (qN S67_211 (qO S67_211 (qO S67_211 44 12) 1) : Int) := by rw [o240_]; exact f233_.kL (j := 1) y44_ (y44_.ref m_.p12 (y44_.2.1 _ finC_29).2.1) (g.row (y44_.ref m_.p12 (y44_.2.1 _ finC_29).2.1)).1.2.1 (by decide) (by decide)
                  have t245_ : (qN S69_232 (qO S69_232 (qO S69_232 44 12) 8) : Int) = (qN S67_211 (qO S67_211 (qO S67_211 44 12) 8) : Int) := by rw [o240_]; exact f233_.kL (j := 8) y44_ (y44_.ref m_.p12 (y44_.2.1 _ finC_29).2.1) (g.row (y44_.ref m_.p12 (y44_.2.1 _ finC_29).2.1)).1.2.2.2.2.2.2 (by decide) (by decide)
                  have t246_ : (qN S69_232 (qO S69_232 (qO S69_232 44 12) 7) : Int) = (qN S67_211 (qO S67_211 (qO S67_211 44 12) 7) : Int) := by rw [o240_]; exact f233_.kL (j := 7) y44_ (y44_.ref m_.p12 (y44_.2.1 _ finC_29).2.1) (g.row (y44_.ref m_.p12 (y44_.2.1 _ finC_29).2.1)).1.2.2.2.2.2.1 (by decide) (by decide)
                  have t247_ : (qN S69_232 (qO S69_232 (qO S69_232 44 12) 0) : Int) = (qN S67_211 (qO S67_211 (qO S67_211 44 12) 0) : Int) := by rw [o240_]; exact f233_.kL (j := 0) y44_ (y44_.ref m_.p12 (y44_.2.1 _ finC_29).2.1) (g.row (y44_.ref m_.p12 (y44_.2.1 _ finC_29).2.1)).1.1 (by decide) (by decide)
                  have t248_ : (qN S69_232 (qO S69_232 (qO S69_232 44 12) 6) : Int) = (qN S67_211 (qO S67_211 (qO S67_211 44 12) 6) : Int) := by rw [o240_]; exact f233_.kL (j := 6) y44_ (y44_.ref m_.p12 (y44_.2.1 _ finC_29).2.1) (g.row (y44_.ref m_.p12 (y44_.2.1 _ finC_29).2.1)).1.2.2.2.2.1 (by decide) (by decide)
                  have t249_ : (qN S69_232 (qO S69_232 (qO S69_232 44 12) 3) : Int) = (qN S67_211 (qO S67_211 (qO S67_211 44 12) 3) : Int) := by rw [o240_]; exact f233_.kL (j := 3) y44_ (y44_.ref m_.p12 (y44_.2.1 _ finC_29).2.1) (g.row (y44_.ref m_.p12 (y44_.2.1 _ finC_29).2.1)).1.2.2.1 (by decide) (by decide)
                  have t250_ : (qN S69_232 (qO S69_232 (qO S69_232 44 12) 5) : Int) = (qN S67_211 (qO S67_211 (qO S67_211 44 12) 5) : Int) := by rw [o240_]; exact f233_.kL (j := 5) y44_ (y44_.ref m_.p12 (y44_.2.1 _ finC_29).2.1) (g.row (y44_.ref m_.p12 (y44_.2.1 _ finC_29).2.1)).1.2.2.2.1 (by decide) (by decide)
                  have t251_ : (qI S69_232 44 19).toInt = (qI S67_211 44 19).toInt := congrArg Int32.toInt (f233_.kI (j := 19) (y44_.2.1 _ finC_29).2.1 (by decide) (by decide))
                  have t252_ : (qI S69_232 44 13).toInt = ((qI S67_211 44 13) + (1 : Int32)).toInt := by rw [eS69_232, qI_wI, if_pos ⟨rfl, rfl⟩]
                  have gO_ := g
                  have g : ShC B S69_232 := ShC.ws y44_ g f233_ (by rw [eS69_232]; rfl) (by rw [eS69_232]; rfl) (by rw [eS69_232]; rfl) rfl rfl
                  have m_ : McIk S69_232 := McIk.frg y44_ gO_ m_ f233_ rfl rfl rfl
                  exact ⟨g, m_, trivial⟩
