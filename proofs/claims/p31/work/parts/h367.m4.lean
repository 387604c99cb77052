set_option maxRecDepth 100000 in
theorem sgX5_step {B : Nat × Nat} {S : MS} (hw : wfC S) (g : ShC B S) (m_ : McIk S) : wX5_step S (fun u => ShC B u ∧ McIk u ∧ (True)) := by
  unfold wX5_step
  refine ⟨?_, ?_⟩
  · exact m_.p12
  refine ⟨?_, ?_⟩
  · exact (dd_X8_opAt hw g (hw.ref m_.p12 (hw.2.1 _ finC_29).2.1))
  intro a6_0 ea6_0 
  have ga6_0 := congrArg Int32.toInt ea6_0
  refine ⟨?_, ?_⟩
  · exact m_.p12
  refine ⟨?_, ?_⟩
  · exact (dd_X8_heightAt hw g (hw.ref m_.p12 (hw.2.1 _ finC_29).2.1))
  intro a12_1 ea12_1 
  have ga12_1 := congrArg Int32.toInt ea12_1
  refine ⟨fun c2_ => ?_, fun c2_ => ?_⟩
  · unfold w_X5_step_J40
    intro y1_
    refine ⟨?_, ?_⟩
    · exact dd_X6_isBinary
    intro a16_3 ea16_3 
    have ga16_3 := congrArg Int32.toInt ea16_3
    refine ⟨fun c4_ => ?_, fun c4_ => ?_⟩
    · refine ⟨?_, ?_⟩
      · exact dd_X6_isUnary
      intro a21_5 ea21_5 
      have ga21_5 := congrArg Int32.toInt ea21_5
      refine ⟨fun c6_ => ?_, fun c6_ => ?_⟩
      · refine ⟨?_, ?_⟩
        · exact dd_X6_isJump
        intro a26_7 ea26_7 
        have ga26_7 := congrArg Int32.toInt ea26_7
        refine ⟨fun c8_ => ?_, fun c8_ => ?_⟩
        · refine ⟨?_, ?_⟩
          · exact dd_X6_isSwitch
          intro a31_9 ea31_9 
          have ga31_9 := congrArg Int32.toInt ea31_9
          refine ⟨fun c10_ => ?_, fun c10_ => ?_⟩
          · refine ⟨fun c11_ => ?_, fun c11_ => ?_⟩
            · unfold w_X5_step_J203
              intro y2_
              refine ⟨fun c12_ => ?_, fun c12_ => ?_⟩
              · unfold w_X5_step_J225
                intro y3_
                refine ⟨fun c13_ => ?_, fun c13_ => ?_⟩
                · unfold w_X5_step_J244
                  intro y4_
                  refine ⟨_, frX5_useStage y4_ (sgX5_useStage y4_ g m_), ?_⟩
                  intro S34_14 q5_ y6_ y7_
                  have gO_ := g
                  have g : ShC B S34_14 := q5_.1.1
                  have m_ : McIk S34_14 := q5_.1.2.1
                  exact ⟨g, m_, trivial⟩
                · refine ⟨fun c15_ => ?_, fun c15_ => ?_⟩
                  · unfold w_X5_step_J244
                    intro y8_
                    refine ⟨_, frX5_useStage y8_ (sgX5_useStage y8_ g m_), ?_⟩
                    intro S34_16 q9_ y10_ y11_
                    have gO_ := g
                    have g : ShC B S34_16 := q9_.1.1
                    have m_ : McIk S34_16 := q9_.1.2.1
                    exact ⟨g, m_, trivial⟩
                  · refine ⟨fun c17_ => ?_, fun c17_ => ?_⟩
                    · unfold w_X5_step_J244
                      intro y12_
                      refine ⟨_, frX5_useStage y12_ (sgX5_useStage y12_ g m_), ?_⟩
                      intro S34_18 q13_ y14_ y15_
                      have gO_ := g
                      have g : ShC B S34_18 := q13_.1.1
                      have m_ : McIk S34_18 := q13_.1.2.1
                      exact ⟨g, m_, trivial⟩
                    · refine ⟨_, frX5_move y3_ (sgX5_move y3_ g m_), ?_⟩
                      intro S41_19 q16_ y17_ y18_
                      have o20_ : qO S41_19 44 12 = qO S 44 12 := qO_eq (q16_.2.kO (y3_.2.1 _ finC_29).2.1 (by decide) (by decide))
                      have t21_ : (qI S41_19 (qO S41_19 44 12) 4).toInt = (qI S (qO S 44 12) 4).toInt := by rw [o20_]; exact congrArg Int32.toInt (q16_.2.kI (j := 4) (y3_.ref m_.p12 (y3_.2.1 _ finC_29).2.1) (by decide) (by decide))
                      have t22_ : (qI S41_19 (qO S41_19 44 12) 9).toInt = (qI S (qO S 44 12) 9).toInt := by rw [o20_]; exact congrArg Int32.toInt (q16_.2.kI (j := 9) (y3_.ref m_.p12 (y3_.2.1 _ finC_29).2.1) (by decide) (by decide))
                      have t23_ : (qI S41_19 (qO S41_19 44 12) 2).toInt = (qI S (qO S 44 12) 2).toInt := by rw [o20_]; exact congrArg Int32.toInt (q16_.2.kI (j := 2) (y3_.ref m_.p12 (y3_.2.1 _ finC_29).2.1) (by decide) (by decide))
                      have t24_ : (qN S41_19 (qO S41_19 (qO S41_19 44 12) 1) : Int) = (qN S (qO S (qO S 44 12) 1) : Int) := by rw [o20_]; exact q16_.2.kL (j := 1) y3_ (y3_.ref m_.p12 (y3_.2.1 _ finC_29).2.1) (g.row (y3_.ref m_.p12 (y3_.2.1 _ finC_29).2.1)).1.2.1 (by decide) (by decide)
                      have t25_ : (qN S41_19 (qO S41_19 (qO S41_19 44 12) 8) : Int) = (qN S (qO S (qO S 44 12) 8) : Int) := by rw [o20_]; exact q16_.2.kL (j := 8) y3_ (y3_.ref m_.p12 (y3_.2.1 _ finC_29).2.1) (g.row (y3_.ref m_.p12 (y3_.2.1 _ finC_29).2.1)).1.2.2.2.2.2.2 (by decide) (by decide)
                      have t26_ : (qN S41_19 (qO S41_19 (qO S41_19 44 12) 7) : Int) = (qN S (qO S (qO S 44 12) 7) : Int) := by rw [o20_]; exact q16_.2.kL (j := 7) y3_ (y3_.ref m_.p12 (y3_.2.1 _ finC_29).2.1) (g.row (y3_.ref m_.p12 (y3_.2.1 _ finC_29).2.1)).1.2.2.2.2.2.1 (by decide) (by decide)
                      have t27_ : (qN S41_19 (qO S41_19 (qO S41_19 44 12) 0) : Int) = (qN S (qO S (qO S 44 12) 0) : Int) := by rw [o20_]; exact q16_.2.kL (j := 0) y3_ (y3_.ref m_.p12 (y3_.2.1 _ finC_29).2.1) (g.row (y3_.ref m_.p12 (y3_.2.1 _ finC_29).2.1)).1.1 (by decide) (by decide)
                      have t28_ : (qN S41_19 (qO S41_19 (qO S41_19 44 12) 6) : Int) = (qN S (qO S (qO S 44 12) 6) : Int) := by rw [o20_]; exact q16_.2.kL (j := 6) y3_ (y3_.ref m_.p12 (y3_.2.1 _ finC_29).2.1) (g.row (y3_.ref m_.p12 (y3_.2.1 _ finC_29).2.1)).1.2.2.2.2.1 (by decide) (by decide)
                      have t29_ : (qN S41_19 (qO S41_19 (qO S41_19 44 12) 3) : Int) = (qN S (qO S (qO S 44 12) 3) : Int) := by rw [o20_]; exact q16_.2.kL (j := 3) y3_ (y3_.ref m_.p12 (y3_.2.1 _ finC_29).2.1) (g.row (y3_.ref m_.p12 (y3_.2.1 _ finC_29).2.1)).1.2.2.1 (by decide) (by decide)
                      have t30_ : (qN S41_19 (qO S41_19 (qO S41_19 44 12) 5) : Int) = (qN S (qO S (qO S 44 12) 5) : Int) := by rw [o20_]; exact q16_.2.kL (j := 5) y3_ (y3_.ref m_.p12 (y3_.2.1 _ finC_29).2.1) (g.row (y3_.ref m_.p12 (y3_.2.1 _ finC_29).2.1)).1.2.2.2.1 (by decide) (by decide)
                      have t31_ : (qI S41_19 44 13).toInt = (qI S 44 13).toInt := congrArg Int32.toInt (q16_.2.kI (j := 13) (y3_.2.1 _ finC_29).2.1 (by decide) (by decide))
                      have gO_ := g
                      have g : ShC B S41_19 := q16_.1.1
                      have m_ : McIk S41_19 := q16_.1.2.1
                      intro S44_32 eS44_32 y19_ y20_
                      have f33_ : cfr [] [(45, 13)] S41_19 S44_32 := by rw [eS44_32]; exact cfr.oI y19_ (by decide)
                      have o34_ : qO S44_32 44 12 = qO S41_19 44 12 := qO_eq (f33_.kO (y17_.2.1 _ finC_29).2.1 (by decide) (by decide))
                      have t35_ : (qI S44_32 (qO S44_32 44 12) 4).toInt = (qI S41_19 (qO S41_19 44 12) 4).toInt := by rw [o34_]; exact congrArg Int32.toInt (f33_.kI (j := 4) (y17_.ref m_.p12 (y17_.2.1 _ finC_29).2.1) (by decide) (by decide))
                      have t36_ : (qI S44_32 (qO S44_32 44 12) 9).toInt = (qI S41_19 (qO S41_19 44 12) 9).toInt := by rw [o34_]; exact congrArg Int32.toInt (f33_.kI (j := 9) (y17_.ref m_.p12 (y17_.2.1 _ finC_29).2.1) (by decide) (by decide))
                      have t37_ : (qI S44_32 (qO S44_32 44 12) 2).toInt = (qI S41_19 (qO S41_19 44 12) 2).toInt := by rw [o34_]; exact congrArg Int32.toInt (f33_.kI (j := 2) (y17_.ref m_.p12 (y17_.2.1 _ finC_29).2.1) (by decide) (by decide))
                      have t38_ : (qN S44_32 (qO S44_32 (qO S44_32 44 12) 1) : Int) = (qN S41_19 (qO S41_19 (qO S41_19 44 12) 1) : Int) := by rw [o34_]; exact f33_.kL (j := 1) y17_ (y17_.ref m_.p12 (y17_.2.1 _ finC_29).2.1) (g.row (y17_.ref m_.p12 (y17_.2.1 _ finC_29).2.1)).1.2.1 (by decide) (by decide)
                      have t39_ : (qN S44_32 (qO S44_32 (qO S44_32 44 12) 8) : Int) = (qN S41_19 (qO S41_19 (qO S41_19 44 12) 8) : Int) := by rw [o34_]; exact f33_.kL (j := 8) y17_ (y17_.ref m_.p12 (y17_.2.1 _ finC_29).2.1) (g.row (y17_.ref m_.p12 (y17_.2.1 _ finC_29).2.1)).1.2.2.2.2.2.2 (by decide) (by decide)
                      have t40_ : (qN S44_32 (qO S44_32 (qO S44_32 44 12) 7) : Int) = (qN S41_19 (qO S41_19 (qO S41_19 44 12) 7) : Int) := by rw [o34_]; exact f33_.kL (j := 7) y17_ (y17_.ref m_.p12 (y17_.2.1 _ finC_29).2.1) (g.row (y17_.ref m_.p12 (y17_.2.1 _ finC_29).2.1)).1.2.2.2.2.2.1 (by decide) (by decide)
                      have t41_ : (qN S44_32 (qO S44_32 (qO S44_32 44 12) 0) : Int) = (qN S41_19 (qO S41_19 (qO S41_19 44 12) 0) : Int) := by rw [o34_]; exact f33_.kL (j := 0) y17_ (y17_.ref m_.p12 (y17_.2.1 _ finC_29).2.1) (g.row (y17_.ref m_.p12 (y17_.2.1 _ finC_29).2.1)).1.1 (by decide) (by decide)
                      have t42_ : (qN S44_32 (qO S44_32 (qO S44_32 44 12) 6) : Int) = (qN S41_19 (qO S41_19 (qO S41_19 44 12) 6) : Int) := by rw [o34_]; exact f33_.kL (j := 6) y17_ (y17_.ref m_.p12 (y17_.2.1 _ finC_29).2.1) (g.row (y17_.ref m_.p12 (y17_.2.1 _ finC_29).2.1)).1.2.2.2.2.1 (by decide) (by decide)
                      have t43_ : (qN S44_32 (qO S44_32 (qO S44_32 44 12) 3) : Int) = (qN S41_19 (qO S41_19 (qO S41_19 44 12) 3) : Int) := by rw [o34_]; exact f33_.kL (j := 3) y17_ (y17_.ref m_.p12 (y17_.2.1 _ finC_29).2.1) (g.row (y17_.ref m_.p12 (y17_.2.1 _ finC_29).2.1)).1.2.2.1 (by decide) (by decide)
                      have t44_ : (qN S44_32 (qO S44_32 (qO S44_32 44 12) 5) : Int) = (qN S41_19 (qO S41_19 (qO S41_19 44 12) 5) : Int) := by rw [o34_]; exact f33_.kL (j := 5) y17_ (y17_.ref m_.p12 (y17_.2.1 _ finC_29).2.1) (g.row (y17_.ref m_.p12 (y17_.2.1 _ finC_29).2.1)).1.2.2.2.1 (by decide) (by decide)
                      have t45_ : (qI S44_32 44 19).toInt = (qI S41_19 44 19).toInt := congrArg Int32.toInt (f33_.kI (j := 19) (y17_.2.1 _ finC_29).2.1 (by decide) (by decide))
                      have t46_ : (qI S44_32 44 14).toInt = (qI S41_19 44 14).toInt := congrArg Int32.toInt (f33_.kI (j := 14) (y17_.2.1 _ finC_29).2.1 (by decide) (by decide))
                      have t47_ : (qI S44_32 44 13).toInt = ((qI S41_19 44 13) + (1 : Int32)).toInt := by rw [eS44_32, qI_wI, if_pos ⟨rfl, rfl⟩]
                      have gO_ := g
                      have g : ShC B S44_32 := ShC.ws y17_ g f33_ (by rw [eS44_32]; rfl) (by rw [eS44_32]; rfl) (by rw [eS44_32]; rfl) rfl rfl
                      have m_ : McIk S44_32 := McIk.frg y17_ gO_ m_ f33_ rfl rfl rfl
                      exact ⟨g, m_, trivial⟩
              · refine ⟨fun c48_ => ?_, fun c48_ => ?_⟩
                · unfold w_X5_step_J225
                  intro y21_
                  refine ⟨fun c49_ => ?_, fun c49_ => ?_⟩
                  · unfold w_X5_step_J244
                    intro y22_
                    refine ⟨_, frX5_useStage y22_ (sgX5_useStage y22_ g m_), ?_⟩
                    intro S34_50 q23_ y24_ y25_
                    have gO_ := g
                    have g : ShC B S34_50 := q23_.1.1
                    have m_ : McIk S34_50 := q23_.1.2.1
                    exact ⟨g, m_, trivial⟩
                  · refine ⟨fun c51_ => ?_, fun c51_ => ?_⟩
                    · unfold w_X5_step_J244
                      intro y26_
                      refine ⟨_, frX5_useStage y26_ (sgX5_useStage y26_ g m_), ?_⟩
                      intro S34_52 q27_ y28_ y29_
                      have gO_ := g
                      have g : ShC B S34_52 := q27_.1.1
                      have m_ : McIk S34_52 := q27_.1.2.1
                      exact ⟨g, m_, trivial⟩
                    · refine ⟨fun c53_ => ?_, fun c53_ => ?_⟩
                      · unfold w_X5_step_J244
                        intro y30_
                        refine ⟨_, frX5_useStage y30_ (sgX5_useStage y30_ g m_), ?_⟩
                        intro S34_54 q31_ y32_ y33_
                        have gO_ := g
                        have g : ShC B S34_54 := q31_.1.1
                        have m_ : McIk S34_54 := q31_.1.2.1
                        exact ⟨g, m_, trivial⟩
                      · refine ⟨_, frX5_move y21_ (sgX5_move y21_ g m_), ?_⟩
                        intro S41_55 q34_ y35_ y36_
                        have o56_ : qO S41_55 44 12 = qO S 44 12 := qO_eq (q34_.2.kO (y21_.2.1 _ finC_29).2.1 (by decide) (by decide))
                        have t57_ : (qI S41_55 (qO S41_55 44 12) 4).toInt = (qI S (qO S 44 12) 4).toInt := by rw [o56_]; exact congrArg Int32.toInt (q34_.2.kI (j := 4) (y21_.ref m_.p12 (y21_.2.1 _ finC_29).2.1) (by decide) (by decide))
                        have t58_ : (qI S41_55 (qO S41_55 44 12) 9).toInt = (qI S (qO S 44 12) 9).toInt := by rw [o56_]; exact congrArg Int32.toInt (q34_.2.kI (j := 9) (y21_.ref m_.p12 (y21_.2.1 _ finC_29).2.1) (by decide) (by decide))
                        have t59_ : (qI S41_55 (qO S41_55 44 12) 2).toInt = (qI S (qO S 44 12) 2).toInt := by rw [o56_]; exact congrArg Int32.toInt (q34_.2.kI (j := 2) (y21_.ref m_.p12 (y21_.2.1 _ finC_29).2.1) (by decide) (by decide))
                        have t60_ : (qN S41_55 (qO S41_55 (qO S41_55 44 12) 1) : Int) = (qN S (qO S (qO S 44 12) 1) : Int) := by rw [o56_]; exact q34_.2.kL (j := 1) y21_ (y21_.ref m_.p12 (y21_.2.1 _ finC_29).2.1) (g.row (y21_.ref m_.p12 (y21_.2.1 _ finC_29).2.1)).1.2.1 (by decide) (by decide)
                        have t61_ : (qN S41_55 (qO S41_55 (qO S41_55 44 12) 8) : Int) = (qN S (qO S (qO S 44 12) 8) : Int) := by rw [o56_]; exact q34_.2.kL (j := 8) y21_ (y21_.ref m_.p12 (y21_.2.1 _ finC_29).2.1) (g.row (y21_.ref m_.p12 (y21_.2.1 _ finC_29).2.1)).1.2.2.2.2.2.2 (by decide) (by decide)
                        have t62_ : (qN S41_55 (qO S41_55 (qO S41_55 44 12) 7) : Int) = (qN S (qO S (qO S 44 12) 7) : Int) := by rw [o56_]; exact q34_.2.kL (j := 7) y21_ (y21_.ref m_.p12 (y21_.2.1 _ finC_29).2.1) (g.row (y21_.ref m_.p12 (y21_.2.1 _ finC_29).2.1)).1.2.2.2.2.2.1 (by decide) (by decide)
                        have t63_ : (qN S41_55 (qO S41_55 (qO S41_55 44 12) 0) : Int) = (qN S (qO S (qO S 44 12) 0) : Int) := by rw [o56_]; exact q34_.2.kL (j := 0) y21_ (y21_.ref m_.p12 (y21_.2.1 _ finC_29).2.1) (g.row (y21_.ref m_.p12 (y21_.2.1 _ finC_29).2.1)).1.1 (by decide) (by decide)
                        have t64_ : (qN S41_55 (qO S41_55 (qO S41_55 44 12) 6) : Int) = (qN S (qO S (qO S 44 12) 6) : Int) := by rw [o56_]; exact q34_.2.kL (j := 6) y21_ (y21_.ref m_.p12 (y21_.2.1 _ finC_29).2.1) (g.row (y21_.ref m_.p12 (y21_.2.1 _ finC_29).2.1)).1.2.2.2.2.1 (by decide) (by decide)
                        have t65_ : (qN S41_55 (qO S41_55 (qO S41_55 44 12) 3) : Int) = (qN S (qO S (qO S 44 12) 3) : Int) := by rw [o56_]; exact q34_.2.kL (j := 3) y21_ (y21_.ref m_.p12 (y21_.2.1 _ finC_29).2.1) (g.row (y21_.ref m_.p12 (y21_.2.1 _ finC_29).2.1)).1.2.2.1 (by decide) (by decide)
                        have t66_ : (qN S41_55 (qO S41_55 (qO S41_55 44 12) 5) : Int) = (qN S (qO S (qO S 44 12) 5) : Int) := by rw [o56_]; exact q34_.2.kL (j := 5) y21_ (y21_.ref m_.p12 (y21_.2.1 _ finC_29).2.1) (g.row (y21_.ref m_.p12 (y21_.2.1 _ finC_29).2.1)).1.2.2.2.1 (by decide) (by decide)
                        have t67_ : (qI S41_55 44 13).toInt = (qI S 44 13).toInt := congrArg Int32.toInt (q34_.2.kI (j := 13) (y21_.2.1 _ finC_29).2.1 (by decide) (by decide))
                        have gO_ := g
                        have g : ShC B S41_55 := q34_.1.1
                        have m_ : McIk S41_55 := q34_.1.2.1
                        intro S44_68 eS44_68 y37_ y38_
                        have f69_ : cfr [] [(45, 13)] S41_55 S44_68 := by rw [eS44_68]; exact cfr.oI y37_ (by decide)
                        have o70_ : qO S44_68 44 12 = qO S41_55 44 12 := qO_eq (f69_.kO (y35_.2.1 _ finC_29).2.1 (by decide) (by decide))
                        have t71_ : (qI S44_68 (qO S44_68 44 12) 4).toInt = (qI S41_55 (qO S41_55 44 12) 4).toInt := by rw [o70_]; exact congrArg Int32.toInt (f69_.kI (j := 4) (y35_.ref m_.p12 (y35_.2.1 _ finC_29).2.1) (by decide) (by decide))
                        have t72_ : (qI S44_68 (qO S44_68 44 12) 9).toInt = (qI S41_55 (qO S41_55 44 12) 9).toInt := by rw [o70_]; exact congrArg Int32.toInt (f69_.kI (j := 9) (y35_.ref m_.p12 (y35_.2.1 _ finC_29).2.1) (by decide) (by decide))
                        have t73_ : (qI S44_68 (qO S44_68 44 12) 2).toInt = (qI S41_55 (qO S41_55 44 12) 2).toInt := by rw [o70_]; exact congrArg Int32.toInt (f69_.kI (j := 2) (y35_.ref m_.p12 (y35_.2.1 _ finC_29).2.1) (by decide) (by decide))
                        have t74_ : (qN S44_68 (qO S44_68 (qO S44_68 44 12) 1) : Int) = (qN S41_55 (qO S41_55 (qO S41_55 44 12) 1) : Int) := by rw [o70_]; exact f69_.kL (j := 1) y35_ (y35_.ref m_.p12 (y35_.2.1 _ finC_29).2.1) (g.row (y35_.ref m_.p12 (y35_.2.1 _ finC_29).2.1)).1.2.1 (by decide) (by decide)
                        have t75_ : (qN S44_68 (qO S44_68 (qO S44_68 44 12) 8) : Int) = (qN S41_55 (qO S41_55 (qO S41_55 44 12) 8) : Int) := by rw [o70_]; exact f69_.kL (j := 8) y35_ (y35_.ref m_.p12 (y35_.2.1 _ finC_29).2.1) (g.row (y35_.ref m_.p12 (y35_.2.1 _ finC_29).2.1)).1.2.2.2.2.2.2 (by decide) (by decide)
                        have t76_ : (qN S44_68 (qO S44_68 (qO S44_68 44 12) 7) : Int) = (qN S41_55 (qO S41_55 (qO S41_55 44 12) 7) : Int) := by rw [o70_]; exact f69_.kL (j := 7) y35_ (y35_.ref m_.p12 (y35_.2.1 _ finC_29).2.1) (g.row (y35_.ref m_.p12 (y35_.2.1 _ finC_29).2.1)).1.2.2.2.2.2.1 (by decide) (by decide)
                        have t77_ : (qN S44_68 (qO S44_68 (qO S44_68 44 12) 0) : Int) = (qN S41_55 (qO S41_55 (qO S41_55 44 12) 0) : Int) := by rw [o70_]; exact f69_.kL (j := 0) y35_ (y35_.ref m_.p12 (y35_.2.1 _ finC_29).2.1) (g.row (y35_.ref m_.p12 (y35_.2.1 _ finC_29).2.1)).1.1 (by decide) (by decide)
                        have t78_ : (qN S44_68 (qO S44_68 (qO S44_68 44 12) 6) : Int) = (qN S41_55 (qO S41_55 (qO S41_55 44 12) 6) : Int) := by rw [o70_]; exact f69_.kL (j := 6) y35_ (y35_.ref m_.p12 (y35_.2.1 _ finC_29).2.1) (g.row (y35_.ref m_.p12 (y35_.2.1 _ finC_29).2.1)).1.2.2.2.2.1 (by decide) (by decide)
                        have t79_ : (qN S44_68 (qO S44_68 (qO S44_68 44 12) 3) : Int) = (qN S41_55 (qO S41_55 (qO S41_55 44 12) 3) : Int) := by rw [o70_]; exact f69_.kL (j := 3) y35_ (y35_.ref m_.p12 (y35_.2.1 _ finC_29).2.1) (g.row (y35_.ref m_.p12 (y35_.2.1 _ finC_29).2.1)).1.2.2.1 (by decide) (by decide)
                        have t80_ : (qN S44_68 (qO S44_68 (qO S44_68 44 12) 5) : Int) = (qN S41_55 (qO S41_55 (qO S41_55 44 12) 5) : Int) := by rw [o70_]; exact f69_.kL (j := 5) y35_ (y35_.ref m_.p12 (y35_.2.1 _ finC_29).2.1) (g.row (y35_.ref m_.p12 (y35_.2.1 _ finC_29).2.1)).1.2.2.2.1 (by decide) (by decide)
                        have t81_ : (qI S44_68 44 19).toInt = (qI S41_55 44 19).toInt := congrArg Int32.toInt (f69_.kI (j := 19) (y35_.2.1 _ finC_29).2.1 (by decide) (by decide))
                        have t82_ : (qI S44_68 44 14).toInt = (qI S41_55 44 14).toInt := congrArg Int32.toInt (f69_.kI (j := 14) (y35_.2.1 _ finC_29).2.1 (by decide) (by decide))
                        have t83_ : (qI S44_68 44 13).toInt = ((qI S41_55 44 13) + (1 : Int32)).toInt := by rw [eS44_68, qI_wI, if_pos ⟨rfl, rfl⟩]
                        have gO_ := g
                        have g : ShC B S44_68 := ShC.ws y35_ g f69_ (by rw [eS44_68]; rfl) (by rw [eS44_68]; rfl) (by rw [eS44_68]; rfl) rfl rfl
                        have m_ : McIk S44_68 := McIk.frg y35_ gO_ m_ f69_ rfl rfl rfl
                        exact ⟨g, m_, trivial⟩
                · refine ⟨_, frX5_leave y2_ (sgX5_leave y2_ g m_), ?_⟩
                  intro S48_84 q39_ y40_ y41_
                  have gO_ := g
                  have g : ShC B S48_84 := q39_.1.1
                  have m_ : McIk S48_84 := q39_.1.2.1
                  exact ⟨g, m_, trivial⟩
            · refine ⟨fun c85_ => ?_, fun c85_ => ?_⟩
              · unfold w_X5_step_J203
                intro y42_
                refine ⟨fun c86_ => ?_, fun c86_ => ?_⟩
                · unfold w_X5_step_J225
                  intro y43_
                  refine ⟨fun c87_ => ?_, fun c87_ => ?_⟩
                  · unfold w_X5_step_J244
                    intro y44_
                    refine ⟨_, frX5_useStage y44_ (sgX5_useStage y44_ g m_), ?_⟩
                    intro S34_88 q45_ y46_ y47_
                    have gO_ := g
                    have g : ShC B S34_88 := q45_.1.1
                    have m_ : McIk S34_88 := q45_.1.2.1
                    exact ⟨g, m_, trivial⟩
                  · refine ⟨fun c89_ => ?_, fun c89_ => ?_⟩
                    · unfold w_X5_step_J244
                      intro y48_
                      refine ⟨_, frX5_useStage y48_ (sgX5_useStage y48_ g m_), ?_⟩
                      intro S34_90 q49_ y50_ y51_
                      have gO_ := g
                      have g : ShC B S34_90 := q49_.1.1
                      have m_ : McIk S34_90 := q49_.1.2.1
                      exact ⟨g, m_, trivial⟩
                    · refine ⟨fun c91_ => ?_, fun c91_ => ?_⟩
                      · unfold w_X5_step_J244
                        intro y52_
                        refine ⟨_, frX5_useStage y52_ (sgX5_useStage y52_ g m_), ?_⟩
                        intro S34_92 q53_ y54_ y55_
                        have gO_ := g
                        have g : ShC B S34_92 := q53_.1.1
                        have m_ : McIk S34_92 := q53_.1.2.1
                        exact ⟨g, m_, trivial⟩
                      · refine ⟨_, frX5_move y43_ (sgX5_move y43_ g m_), ?_⟩
                        intro S41_93 q56_ y57_ y58_
                        have o94_ : qO S41_93 44 12 = qO S 44 12 := qO_eq (q56_.2.kO (y43_.2.1 _ finC_29).2.1 (by decide) (by decide))
                        have t95_ : (qI S41_93 (qO S41_93 44 12) 4).toInt = (qI S (qO S 44 12) 4).toInt := by rw [o94_]; exact congrArg Int32.toInt (q56_.2.kI (j := 4) (y43_.ref m_.p12 (y43_.2.1 _ finC_29).2.1) (by decide) (by decide))
                        have t96_ : (qI S41_93 (qO S41_93 44 12) 9).toInt = (qI S (qO S 44 12) 9).toInt := by rw [o94_]; exact congrArg Int32.toInt (q56_.2.kI (j := 9) (y43_.ref m_.p12 (y43_.2.1 _ finC_29).2.1) (by decide) (by decide))
                        have t97_ : (qI S41_93 (qO S41_93 44 12) 2).toInt = (qI S (qO S 44 12) 2).toInt := by rw [o94_]; exact congrArg Int32.toInt (q56_.2.kI (j := 2) (y43_.ref m_.p12 (y43_.2.1 _ finC_29).2.1) (by decide) (by decide))
                        have t98_ : (qN S41_93 (qO S41_93 (qO S41_93 44 12) 1) : Int) = (qN S (qO S (qO S 44 12) 1) : Int) := by rw [o94_]; exact q56_.2.kL (j := 1) y43_ (y43_.ref m_.p12 (y43_.2.1 _ finC_29).2.1) (g.row (y43_.ref m_.p12 (y43_.2.1 _ finC_29).2.1)).1.2.1 (by decide) (by decide)
                        have t99_ : (qN S41_93 (qO S41_93 (qO S41_93 44 12) 8) : Int) = (qN S (qO S (qO S 44 12) 8) : Int) := by rw [o94_]; exact q56_.2.kL (j := 8) y43_ (y43_.ref m_.p12 (y43_.2.1 _ finC_29).2.1) (g.row (y43_.ref m_.p12 (y43_.2.1 _ finC_29).2.1)).1.2.2.2.2.2.2 (by decide) (by decide)
                        have t100_ : (qN S41_93 (qO S41_93 (qO S41_93 44 12) 7) : Int) = (qN S (qO S (qO S 44 12) 7) : Int) := by rw [o94_]; exact q56_.2.kL (j := 7) y43_ (y43_.ref m_.p12 (y43_.2.1 _ finC_29).2.1) (g.row (y43_.ref m_.p12 (y43_.2.1 _ finC_29).2.1)).1.2.2.2.2.2.1 (by decide) (by decide)
                        have t101_ : (qN S41_93 (qO S41_93 (qO S41_93 44 12) 0) : Int) = (qN S (qO S (qO S 44 12) 0) : Int) := by rw [o94_]; exact q56_.2.kL (j := 0) y43_ (y43_.ref m_.p12 (y43_.2.1 _ finC_29).2.1) (g.row (y43_.ref m_.p12 (y43_.2.1 _ finC_29).2.1)).1.1 (by decide) (by decide)
                        have t102_ : (qN S41_93 (qO S41_93 (qO S41_93 44 12) 6) : Int) = (qN S (qO S (qO S 44 12) 6) : Int) := by rw [o94_]; exact q56_.2.kL (j := 6) y43_ (y43_.ref m_.p12 (y43_.2.1 _ finC_29).2.1) (g.row (y43_.ref m_.p12 (y43_.2.1 _ finC_29).2.1)).1.2.2.2.2.1 (by decide) (by decide)
                        have t103_ : (qN S41_93 (qO S41_93 (qO S41_93 44 12) 3) : Int) = (qN S (qO S (qO S 44 12) 3) : Int) := by rw [o94_]; exact q56_.2.kL (j := 3) y43_ (y43_.ref m_.p12 (y43_.2.1 _ finC_29).2.1) (g.row (y43_.ref m_.p12 (y43_.2.1 _ finC_29).2.1)).1.2.2.1 (by decide) (by decide)
                        have t104_ : (qN S41_93 (qO S41_93 (qO S41_93 44 12) 5) : Int) = (qN S (qO S (qO S 44 12) 5) : Int) := by rw [o94_]; exact q56_.2.kL (j := 5) y43_ (y43_.ref m_.p12 (y43_.2.1 _ finC_29).2.1) (g.row (y43_.ref m_.p12 (y43_.2.1 _ finC_29).2.1)).1.2.2.2.1 (by decide) (by decide)
                        have t105_ : (qI S41_93 44 13).toInt = (qI S 44 13).toInt := congrArg Int32.toInt (q56_.2.kI (j := 13) (y43_.2.1 _ finC_29).2.1 (by decide) (by decide))
                        have gO_ := g
                        have g : ShC B S41_93 := q56_.1.1
                        have m_ : McIk S41_93 := q56_.1.2.1
                        intro S44_106 eS44_106 y59_ y60_
                        have f107_ : cfr [] [(45, 13)] S41_93 S44_106 := by rw [eS44_106]; exact cfr.oI y59_ (by decide)
                        have o108_ : qO S44_106 44 12 = qO S41_93 44 12 := qO_eq (f107_.kO (y57_.2.1 _ finC_29).2.1 (by decide) (by decide))
                        have t109_ : (qI S44_106 (qO S44_106 44 12) 4).toInt = (qI S41_93 (qO S41_93 44 12) 4).toInt := by rw [o108_]; exact congrArg Int32.toInt (f107_.kI (j := 4) (y57_.ref m_.p12 (y57_.2.1 _ finC_29).2.1) (by decide) (by decide))
                        have t110_ : (qI S44_106 (qO S44_106 44 12) 9).toInt = (qI S41_93 (qO S41_93 44 12) 9).toInt := by rw [o108_]; exact congrArg Int32.toInt (f107_.kI (j := 9) (y57_.ref m_.p12 (y57_.2.1 _ finC_29).2.1) (by decide) (by decide))
                        have t111_ : (qI S44_106 (qO S44_106 44 12) 2).toInt = (qI S41_93 (qO S41_93 44 12) 2).toInt := by rw [o108_]; exact congrArg Int32.toInt (f107_.kI (j := 2) (y57_.ref m_.p12 (y57_.2.1 _ finC_29).2.1) (by decide) (by decide))
                        have t112_ : (qN S44_106 (qO S44_106 (qO S44_106 44 12) 1) : Int) = (qN S41_93 (qO S41_93 (qO S41_93 44 12) 1) : Int) := by rw [o108_]; exact f107_.kL (j := 1) y57_ (y57_.ref m_.p12 (y57_.2.1 _ finC_29).2.1) (g.row (y57_.ref m_.p12 (y57_.2.1 _ finC_29).2.1)).1.2.1 (by decide) (by decide)
                        have t113_ : (qN S44_106 (qO S44_106 (qO S44_106 44 12) 8) : Int) = (qN S41_93 (qO S41_93 (qO S41_93 44 12) 8) : Int) := by rw [o108_]; exact f107_.kL (j := 8) y57_ (y57_.ref m_.p12 (y57_.2.1 _ finC_29).2.1) (g.row (y57_.ref m_.p12 (y57_.2.1 _ finC_29).2.1)).1.2.2.2.2.2.2 (by decide) (by decide)
                        have t114_ : (qN S44_106 (qO S44_106 (qO S44_106 44 12) 7) : Int) = (qN S41_93 (qO S41_93 (qO S41_93 44 12) 7) : Int) := by rw [o108_]; exact f107_.kL (j := 7) y57_ (y57_.ref m_.p12 (y57_.2.1 _ finC_29).2.1) (g.row (y57_.ref m_.p12 (y57_.2.1 _ finC_29).2.1)).1.2.2.2.2.2.1 (by decide) (by decide)
                        have t115_ : (qN S44_106 (qO S44_106 (qO S44_106 44 12) 0) : Int) = (qN S41_93 (qO S41_93 (qO S41_93 44 12) 0) : Int) := by rw [o108_]; exact f107_.kL (j := 0) y57_ (y57_.ref m_.p12 (y57_.2.1 _ finC_29).2.1) (g.row (y57_.ref m_.p12 (y57_.2.1 _ finC_29).2.1)).1.1 (by decide) (by decide)
                        have t116_ : (qN S44_106 (qO S44_106 (qO S44_106 44 12) 6) : Int) = (qN S41_93 (qO S41_93 (qO S41_93 44 12) 6) : Int) := by rw [o108_]; exact f107_.kL (j := 6) y57_ (y57_.ref m_.p12 (y57_.2.1 _ finC_29).2.1) (g.row (y57_.ref m_.p12 (y57_.2.1 _ finC_29).2.1)).1.2.2.2.2.1 (by decide) (by decide)
                        have t117_ : (qN S44_106 (qO S44_106 (qO S44_106 44 12) 3) : Int) = (qN S41_93 (qO S41_93 (qO S41_93 44 12) 3) : Int) := by rw [o108_]; exact f107_.kL (j := 3) y57_ (y57_.ref m_.p12 (y57_.2.1 _ finC_29).2.1) (g.row (y57_.ref m_.p12 (y57_.2.1 _ finC_29).2.1)).1.2.2.1 (by decide) (by decide)
                        have t118_ : (qN S44_106 (qO S44_106 (qO S44_106 44 12) 5) : Int) = (qN S41_93 (qO S41_93 (qO S41_93 44 12) 5) : Int) := by rw [o108_]; exact f107_.kL (j := 5) y57_ (y57_.ref m_.p12 (y57_.2.1 _ finC_29).2.1) (g.row (y57_.ref m_.p12 (y57_.2.1 _ finC_29).2.1)).1.2.2.2.1 (by decide) (by decide)
                        have t119_ : (qI S44_106 44 19).toInt = (qI S41_93 44 19).toInt := congrArg Int32.toInt (f107_.kI (j := 19) (y57_.2.1 _ finC_29).2.1 (by decide) (by decide))
                        have t120_ : (qI S44_106 44 14).toInt = (qI S41_93 44 14).toInt := congrArg Int32.toInt (f107_.kI (j := 14) (y57_.2.1 _ finC_29).2.1 (by decide) (by decide))
                        have t121_ : (qI S44_106 44 13).toInt = ((qI S41_93 44 13) + (1 : Int32)).toInt := by rw [eS44_106, qI_wI, if_pos ⟨rfl, rfl⟩]
                        have gO_ := g
                        have g : ShC B S44_106 := ShC.ws y57_ g f107_ (by rw [eS44_106]; rfl) (by rw [eS44_106]; rfl) (by rw [eS44_106]; rfl) rfl rfl
                        have m_ : McIk S44_106 := McIk.frg y57_ gO_ m_ f107_ rfl rfl rfl
                        exact ⟨g, m_, trivial⟩
                · refine ⟨fun c122_ => ?_, fun c122_ => ?_⟩
                  · unfold w_X5_step_J225
                    intro y61_
                    refine ⟨fun c123_ => ?_, fun c123_ => ?_⟩
                    · unfold w_X5_step_J244
                      intro y62_
                      refine ⟨_, frX5_useStage y62_ (sgX5_useStage y62_ g m_), ?_⟩
                      intro S34_124 q63_ y64_ y65_
                      have gO_ := g
                      have g : ShC B S34_124 := q63_.1.1
                      have m_ : McIk S34_124 := q63_.1.2.1
                      exact ⟨g, m_, trivial⟩
                    · refine ⟨fun c125_ => ?_, fun c125_ => ?_⟩
                      · unfold w_X5_step_J244
                        intro y66_
                        refine ⟨_, frX5_useStage y66_ (sgX5_useStage y66_ g m_), ?_⟩
                        intro S34_126 q67_ y68_ y69_
                        have gO_ := g
                        have g : ShC B S34_126 := q67_.1.1
                        have m_ : McIk S34_126 := q67_.1.2.1
                        exact ⟨g, m_, trivial⟩
                      · refine ⟨fun c127_ => ?_, fun c127_ => ?_⟩
                        · unfold w_X5_step_J244
                          intro y70_
                          refine ⟨_, frX5_useStage y70_ (sgX5_useStage y70_ g m_), ?_⟩
                          intro S34_128 q71_ y72_ y73_
                          have gO_ := g
                          have g : ShC B S34_128 := q71_.1.1
                          have m_ : McIk S34_128 := q71_.1.2.1
                          exact ⟨g, m_, trivial⟩
                        · refine ⟨_, frX5_move y61_ (sgX5_move y61_ g m_), ?_⟩
                          intro S41_129 q74_ y75_ y76_
                          have o130_ : qO S41_129 44 12 = qO S 44 12 := qO_eq (q74_.2.kO (y61_.2.1 _ finC_29).2.1 (by decide) (by decide))
                          have t131_ : (qI S41_129 (qO S41_129 44 12) 4).toInt = (qI S (qO S 44 12) 4).toInt := by rw [o130_]; exact congrArg Int32.toInt (q74_.2.kI (j := 4) (y61_.ref m_.p12 (y61_.2.1 _ finC_29).2.1) (by decide) (by decide))
                          have t132_ : (qI S41_129 (qO S41_129 44 12) 9).toInt = (qI S (qO S 44 12) 9).toInt := by rw [o130_]; exact congrArg Int32.toInt (q74_.2.kI (j := 9) (y61_.ref m_.p12 (y61_.2.1 _ finC_29).2.1) (by decide) (by decide))
                          have t133_ : (qI S41_129 (qO S41_129 44 12) 2).toInt = (qI S (qO S 44 12) 2).toInt := by rw [o130_]; exact congrArg Int32.toInt (q74_.2.kI (j := 2) (y61_.ref m_.p12 (y61_.2.1 _ finC_29).2.1) (by decide) (by decide))
                          have t134_ : (qN S41_129 (qO S41_129 (qO S41_129 44 12) 1) : Int) = (qN S (qO S (qO S 44 12) 1) : Int) := by rw [o130_]; exact q74_.2.kL (j := 1) y61_ (y61_.ref m_.p12 (y61_.2.1 _ finC_29).2.1) (g.row (y61_.ref m_.p12 (y61_.2.1 _ finC_29).2.1)).1.2.1 (by decide) (by decide)
                          have t135_ : (qN S41_129 (qO S41_129 (qO S41_129 44 12) 8) : Int) = (qN S (qO S (qO S 44 12) 8) : Int) := by rw [o130_]; exact q74_.2.kL (j := 8) y61_ (y61_.ref m_.p12 (y61_.2.1 _ finC_29).2.1) (g.row (y61_.ref m_.p12 (y61_.2.1 _ finC_29).2.1)).1.2.2.2.2.2.2 (by decide) (by decide)
                          have t136_ : (qN S41_129 (qO S41_129 (qO S41_129 44 12) 7) : Int) = (qN S (qO S (qO S 44 12) 7) : Int) := by rw [o130_]; exact q74_.2.kL (j := 7) y61_ (y61_.ref m_.p12 (y61_.2.1 _ finC_29).2.1) (g.row (y61_.ref m_.p12 (y61_.2.1 _ finC_29).2.1)).1.2.2.2.2.2.1 (by decide) (by decide)
                          have t137_ : (qN S41_129 (qO S41_129 (qO S41_129 44 12) 0) : Int) = (qN S (qO S (qO S 44 12) 0) : Int) := by rw [o130_]; exact q74_.2.kL (j := 0) y61_ (y61_.ref m_.p12 (y61_.2.1 _ finC_29).2.1) (g.row (y61_.ref m_.p12 (y61_.2.1 _ finC_29).2.1)).1.1 (by decide) (by decide)
                          have t138_ : (qN S41_129 (qO S41_129 (qO S41_129 44 12) 6) : Int) = (qN S (qO S (qO S 44 12) 6) : Int) := by rw [o130_]; exact q74_.2.kL (j := 6) y61_ (y61_.ref m_.p12 (y61_.2.1 _ finC_29).2.1) (g.row (y61_.ref m_.p12 (y61_.2.1 _ finC_29).2.1)).1.2.2.2.2.1 (by decide) (by decide)
                          have t139_ : (qN S41_129 (qO S41_129 (qO S41_129 44 12) 3) : Int) = (qN S (qO S (qO S 44 12) 3) : Int) := by rw [o130_]; exact q74_.2.kL (j := 3) y61_ (y61_.ref m_.p12 (y61_.2.1 _ finC_29).2.1) (g.row (y61_.ref m_.p12 (y61_.2.1 _ finC_29).2.1)).1.2.2.1 (by decide) (by decide)
                          have t140_ : (qN S41_129 (qO S41_129 (qO S41_129 44 12) 5) : Int) = (qN S (qO S (qO S 44 12) 5) : Int) := by rw [o130_]; exact q74_.2.kL (j := 5) y61_ (y61_.ref m_.p12 (y61_.2.1 _ finC_29).2.1) (g.row (y61_.ref m_.p12 (y61_.2.1 _ finC_29).2.1)).1.2.2.2.1 (by decide) (by decide)
                          have t141_ : (qI S41_129 44 13).toInt = (qI S 44 13).toInt := congrArg Int32.toInt (q74_.2.kI (j := 13) (y61_.2.1 _ finC_29).2.1 (by decide) (by decide))
                          have gO_ := g
                          have g : ShC B S41_129 := q74_.1.1
                          have m_ : McIk S41_129 := q74_.1.2.1
                          intro S44_142 eS44_142 y77_ y78_
                          have f143_ : cfr [] [(45, 13)] S41_129 S44_142 := by rw [eS44_142]; exact cfr.oI y77_ (by decide)
                          have o144_ : qO S44_142 44 12 = qO S41_129 44 12 := qO_eq (f143_.kO (y75_.2.1 _ finC_29).2.1 (by decide) (by decide))
                          have t145_ : (qI S44_142 (qO S44_142 44 12) 4).toInt = (qI S41_129 (qO S41_129 44 12) 4).toInt := by rw [o144_]; exact congrArg Int32.toInt (f143_.kI (j := 4) (y75_.ref m_.p12 (y75_.2.1 _ finC_29).2.1) (by decide) (by decide))
                          have t146_ : (qI S44_142 (qO S44_142 44 12) 9).toInt = (qI S41_129 (qO S41_129 44 12) 9).toInt := by rw [o144_]; exact congrArg Int32.toInt (f143_.kI (j := 9) (y75_.ref m_.p12 (y75_.2.1 _ finC_29).2.1) (by decide) (by decide))
                          have t147_ : (qI S44_142 (qO S44_142 44 12) 2).toInt = (qI S41_129 (qO S41_129 44 12) 2).toInt := by rw [o144_]; exact congrArg Int32.toInt (f143_.kI (j := 2) (y75_.ref m_.p12 (y75_.2.1 _ finC_29).2.1) (by decide) (by decide))
                          have t148_ : (qN S44_142 (qO S44_142 (qO S44_142 44 12) 1) : Int) = (qN S41_129 (qO S41_129 (qO S41_129 44 12) 1) : Int) := by rw [o144_]; exact f143_.kL (j := 1) y75_ (y75_.ref m_.p12 (y75_.2.1 _ finC_29).2.1) (g.row (y75_.ref m_.p12 (y75_.2.1 _ finC_29).2.1)).1.2.1 (by decide) (by decide)
                          have t149_ : (qN S44_142 (qO S44_142 (qO S44_142 44 12) 8) : Int) = (qN S41_129 (qO S41_129 (qO S41_129 44 12) 8) : Int) := by rw [o144_]; exact f143_.kL (j := 8) y75_ (y75_.ref m_.p12 (y75_.2.1 _ finC_29).2.1) (g.row (y75_.ref m_.p12 (y75_.2.1 _ finC_29).2.1)).1.2.2.2.2.2.2 (by decide) (by decide)
                          have t150_ : (qN S44_142 (qO S44_142 (qO S44_142 44 12) 7) : Int) = (qN S41_129 (qO S41_129 (qO S41_129 44 12) 7) : Int) := by rw [o144_]; exact f143_.kL (j := 7) y75_ (y75_.ref m_.p12 (y75_.2.1 _ finC_29).2.1) (g.row (y75_.ref m_.p12 (y75_.2.1 _ finC_29).2.1)).1.2.2.2.2.2.1 (by decide) (by decide)
                          have t151_ : (qN S44_142 (qO S44_142 (qO S44_142 44 12) 0) : Int) = (qN S41_129 (qO S41_129 (qO S41_129 44 12) 0) : Int) := by rw [o144_]; exact f143_.kL (j := 0) y75_ (y75_.ref m_.p12 (y75_.2.1 _ finC_29).2.1) (g.row (y75_.ref m_.p12 (y75_.2.1 _ finC_29).2.1)).1.1 (by decide) (by decide)
                          have t152_ : (qN S44_142 (qO S44_142 (qO S44_142 44 12) 6) : Int) = (qN S41_129 (qO S41_129 (qO S41_129 44 12) 6) : Int) := by rw [o144_]; exact f143_.kL (j := 6) y75_ (y75_.ref m_.p12 (y75_.2.1 _ finC_29).2.1) (g.row (y75_.ref m_.p12 (y75_.2.1 _ finC_29).2.1)).1.2.2.2.2.1 (by decide) (by decide)
                          have t153_ : (qN S44_142 (qO S44_142 (qO S44_142 44 12) 3) : Int) = (qN S41_129 (qO S41_129 (qO S41_129 44 12) 3) : Int) := by rw [o144_]; exact f143_.kL (j := 3) y75_ (y75_.ref m_.p12 (y75_.2.1 _ finC_29).2.1) (g.row (y75_.ref m_.p12 (y75_.2.1 _ finC_29).2.1)).1.2.2.1 (by decide) (by decide)
                          have t154_ : (qN S44_142 (qO S44_142 (qO S44_142 44 12) 5) : Int) = (qN S41_129 (qO S41_129 (qO S41_129 44 12) 5) : Int) := by rw [o144_]; exact f143_.kL (j := 5) y75_ (y75_.ref m_.p12 (y75_.2.1 _ finC_29).2.1) (g.row (y75_.ref m_.p12 (y75_.2.1 _ finC_29).2.1)).1.2.2.2.1 (by decide) (by decide)
                          have t155_ : (qI S44_142 44 19).toInt = (qI S41_129 44 19).toInt := congrArg Int32.toInt (f143_.kI (j := 19) (y75_.2.1 _ finC_29).2.1 (by decide) (by decide))
                          have t156_ : (qI S44_142 44 14).toInt = (qI S41_129 44 14).toInt := congrArg Int32.toInt (f143_.kI (j := 14) (y75_.2.1 _ finC_29).2.1 (by decide) (by decide))
                          have t157_ : (qI S44_142 44 13).toInt = ((qI S41_129 44 13) + (1 : Int32)).toInt := by rw [eS44_142, qI_wI, if_pos ⟨rfl, rfl⟩]
                          have gO_ := g
                          have g : ShC B S44_142 := ShC.ws y75_ g f143_ (by rw [eS44_142]; rfl) (by rw [eS44_142]; rfl) (by rw [eS44_142]; rfl) rfl rfl
                          have m_ : McIk S44_142 := McIk.frg y75_ gO_ m_ f143_ rfl rfl rfl
                          exact ⟨g, m_, trivial⟩
                  · refine ⟨_, frX5_leave y42_ (sgX5_leave y42_ g m_), ?_⟩
                    intro S48_158 q79_ y80_ y81_
                    have gO_ := g
                    have g : ShC B S48_158 := q79_.1.1
                    have m_ : McIk S48_158 := q79_.1.2.1
                    exact ⟨g, m_, trivial⟩
              · refine ⟨_, frX5_shuffle y1_ (sfX5_shuffle y1_ ), ?_⟩
                intro S53_159 q82_ y83_ y84_
                have o160_ : qO S53_159 44 12 = qO S 44 12 := qO_eq (q82_.2.kO (y1_.2.1 _ finC_29).2.1 (by decide) (by decide))
                have t161_ : (qI S53_159 (qO S53_159 44 12) 4).toInt = (qI S (qO S 44 12) 4).toInt := by rw [o160_]; exact congrArg Int32.toInt (q82_.2.kI (j := 4) (y1_.ref m_.p12 (y1_.2.1 _ finC_29).2.1) (by decide) (by decide))
                have t162_ : (qI S53_159 (qO S53_159 44 12) 9).toInt = (qI S (qO S 44 12) 9).toInt := by rw [o160_]; exact congrArg Int32.toInt (q82_.2.kI (j := 9) (y1_.ref m_.p12 (y1_.2.1 _ finC_29).2.1) (by decide) (by decide))
                have t163_ : (qI S53_159 (qO S53_159 44 12) 2).toInt = (qI S (qO S 44 12) 2).toInt := by rw [o160_]; exact congrArg Int32.toInt (q82_.2.kI (j := 2) (y1_.ref m_.p12 (y1_.2.1 _ finC_29).2.1) (by decide) (by decide))
                have t164_ : (qN S53_159 (qO S53_159 (qO S53_159 44 12) 1) : Int) = (qN S (qO S (qO S 44 12) 1) : Int) := by rw [o160_]; exact q82_.2.kL (j := 1) y1_ (y1_.ref m_.p12 (y1_.2.1 _ finC_29).2.1) (g.row (y1_.ref m_.p12 (y1_.2.1 _ finC_29).2.1)).1.2.1 (by decide) (by decide)
                have t165_ : (qN S53_159 (qO S53_159 (qO S53_159 44 12) 8) : Int) = (qN S (qO S (qO S 44 12) 8) : Int) := by rw [o160_]; exact q82_.2.kL (j := 8) y1_ (y1_.ref m_.p12 (y1_.2.1 _ finC_29).2.1) (g.row (y1_.ref m_.p12 (y1_.2.1 _ finC_29).2.1)).1.2.2.2.2.2.2 (by decide) (by decide)
                have t166_ : (qN S53_159 (qO S53_159 (qO S53_159 44 12) 7) : Int) = (qN S (qO S (qO S 44 12) 7) : Int) := by rw [o160_]; exact q82_.2.kL (j := 7) y1_ (y1_.ref m_.p12 (y1_.2.1 _ finC_29).2.1) (g.row (y1_.ref m_.p12 (y1_.2.1 _ finC_29).2.1)).1.2.2.2.2.2.1 (by decide) (by decide)
                have t167_ : (qN S53_159 (qO S53_159 (qO S53_159 44 12) 0) : Int) = (qN S (qO S (qO S 44 12) 0) : Int) := by rw [o160_]; exact q82_.2.kL (j := 0) y1_ (y1_.ref m_.p12 (y1_.2.1 _ finC_29).2.1) (g.row (y1_.ref m_.p12 (y1_.2.1 _ finC_29).2.1)).1.1 (by decide) (by decide)
                have t168_ : (qN S53_159 (qO S53_159 (qO S53_159 44 12) 6) : Int) = (qN S (qO S (qO S 44 12) 6) : Int) := by rw [o160_]; exact q82_.2.kL (j := 6) y1_ (y1_.ref m_.p12 (y1_.2.1 _ finC_29).2.1) (g.row (y1_.ref m_.p12 (y1_.2.1 _ finC_29).2.1)).1.2.2.2.2.1 (by decide) (by decide)
                have t169_ : (qN S53_159 (qO S53_159 (qO S53_159 44 12) 3) : Int) = (qN S (qO S (qO S 44 12) 3) : Int) := by rw [o160_]; exact q82_.2.kL (j := 3) y1_ (y1_.ref m_.p12 (y1_.2.1 _ finC_29).2.1) (g.row (y1_.ref m_.p12 (y1_.2.1 _ finC_29).2.1)).1.2.2.1 (by decide) (by decide)
                have t170_ : (qN S53_159 (qO S53_159 (qO S53_159 44 12) 5) : Int) = (qN S (qO S (qO S 44 12) 5) : Int) := by rw [o160_]; exact q82_.2.kL (j := 5) y1_ (y1_.ref m_.p12 (y1_.2.1 _ finC_29).2.1) (g.row (y1_.ref m_.p12 (y1_.2.1 _ finC_29).2.1)).1.2.2.2.1 (by decide) (by decide)
                have t171_ : (qI S53_159 44 13).toInt = (qI S 44 13).toInt := congrArg Int32.toInt (q82_.2.kI (j := 13) (y1_.2.1 _ finC_29).2.1 (by decide) (by decide))
                have gO_ := g
                have g : ShC B S53_159 := ShC.ca y1_ g q82_.2 y84_ y83_ rfl rfl
                have m_ : McIk S53_159 := McIk.frg y1_ gO_ m_ q82_.2 rfl rfl rfl
                intro S56_172 eS56_172 y85_ y86_
                have f173_ : cfr [] [(45, 13)] S53_159 S56_172 := by rw [eS56_172]; exact cfr.oI y85_ (by decide)
                have o174_ : qO S56_172 44 12 = qO S53_159 44 12 := qO_eq (f173_.kO (y83_.2.1 _ finC_29).2.1 (by decide) (by decide))
                have t175_ : (qI S56_172 (qO S56_172 44 12) 4).toInt = (qI S53_159 (qO S53_159 44 12) 4).toInt := by rw [o174_]; exact congrArg Int32.toInt (f173_.kI (j := 4) (y83_.ref m_.p12 (y83_.2.1 _ finC_29).2.1) (by decide) (by decide))
                have t176_ : (qI S56_172 (qO S56_172 44 12) 9).toInt = (qI S53_159 (qO S53_159 44 12) 9).toInt := by rw [o174_]; exact congrArg Int32.toInt (f173_.kI (j := 9) (y83_.ref m_.p12 (y83_.2.1 _ finC_29).2.1) (by decide) (by decide))
                have t177_ : (qI S56_172 (qO S56_172 44 12) 2).toInt = (qI S53_159 (qO S53_159 44 12) 2).toInt := by rw [o174_]; exact congrArg Int32.toInt (f173_.kI (j := 2) (y83_.ref m_.p12 (y83_.2.1 _ finC_29).2.1) (by decide) (by decide))
                have t178_ : (qN S56_172 (qO S56_172 (qO S56_172 44 12) 1) : Int) = (qN S53_159 (qO S53_159 (qO S53_159 44 12) 1) : Int) := by rw [o174_]; exact f173_.kL (j := 1) y83_ (y83_.ref m_.p12 (y83_.2.1 _ finC_29).2.1) (g.row (y83_.ref m_.p12 (y83_.2.1 _ finC_29).2.1)).1.2.1 (by decide) (by decide)
                have t179_ : (qN S56_172 (qO S56_172 (qO S56_172 44 12) 8) : Int) = (qN S53_159 (qO S53_159 (qO S53_159 44 12) 8) : Int) := by rw [o174_]; exact f173_.kL (j := 8) y83_ (y83_.ref m_.p12 (y83_.2.1 _ finC_29).2.1) (g.row (y83_.ref m_.p12 (y83_.2.1 _ finC_29).2.1)).1.2.2.2.2.2.2 (by decide) (by decide)
                have t180_ : (qN S56_172 (qO S56_172 (qO S56_172 44 12) 7) : Int) = (qN S53_159 (qO S53_159 (qO S53_159 44 12) 7) : Int) := by rw [o174_]; exact f173_.kL (j := 7) y83_ (y83_.ref m_.p12 (y83_.2.1 _ finC_29).2.1) (g.row (y83_.ref m_.p12 (y83_.2.1 _ finC_29).2.1)).1.2.2.2.2.2.1 (by decide) (by decide)
                have t181_ : (qN S56_172 (qO S56_172 (qO S56_172 44 12) 0) : Int) = (qN S53_159 (qO S53_159 (qO S53_159 44 12) 0) : Int) := by rw [o174_]; exact f173_.kL (j := 0) y83_ (y83_.ref m_.p12 (y83_.2.1 _ finC_29).2.1) (g.row (y83_.ref m_.p12 (y83_.2.1 _ finC_29).2.1)).1.1 (by decide) (by decide)
                have t182_ : (qN S56_172 (qO S56_172 (qO S56_172 44 12) 6) : Int) = (qN S53_159 (qO S53_159 (qO S53_159 44 12) 6) : Int) := by rw [o174_]; exact f173_.kL (j := 6) y83_ (y83_.ref m_.p12 (y83_.2.1 _ finC_29).2.1) (g.row (y83_.ref m_.p12 (y83_.2.1 _ finC_29).2.1)).1.2.2.2.2.1 (by decide) (by decide)
                have t183_ : (qN S56_172 (qO S56_172 (qO S56_172 44 12) 3) : Int) = (qN S53_159 (qO S53_159 (qO S53_159 44 12) 3) : Int) := by rw [o174_]; exact f173_.kL (j := 3) y83_ (y83_.ref m_.p12 (y83_.2.1 _ finC_29).2.1) (g.row (y83_.ref m_.p12 (y83_.2.1 _ finC_29).2.1)).1.2.2.1 (by decide) (by decide)
                have t184_ : (qN S56_172 (qO S56_172 (qO S56_172 44 12) 5) : Int) = (qN S53_159 (qO S53_159 (qO S53_159 44 12) 5) : Int) := by rw [o174_]; exact f173_.kL (j := 5) y83_ (y83_.ref m_.p12 (y83_.2.1 _ finC_29).2.1) (g.row (y83_.ref m_.p12 (y83_.2.1 _ finC_29).2.1)).1.2.2.2.1 (by decide) (by decide)
                have t185_ : (qI S56_172 44 19).toInt = (qI S53_159 44 19).toInt := congrArg Int32.toInt (f173_.kI (j := 19) (y83_.2.1 _ finC_29).2.1 (by decide) (by decide))
                have t186_ : (qI S56_172 44 14).toInt = (qI S53_159 44 14).toInt := congrArg Int32.toInt (f173_.kI (j := 14) (y83_.2.1 _ finC_29).2.1 (by decide) (by decide))
                have t187_ : (qI S56_172 44 13).toInt = ((qI S53_159 44 13) + (1 : Int32)).toInt := by rw [eS56_172, qI_wI, if_pos ⟨rfl, rfl⟩]
                have gO_ := g
                have g : ShC B S56_172 := ShC.ws y83_ g f173_ (by rw [eS56_172]; rfl) (by rw [eS56_172]; rfl) (by rw [eS56_172]; rfl) rfl rfl
                have m_ : McIk S56_172 := McIk.frg y83_ gO_ m_ f173_ rfl rfl rfl
                exact ⟨g, m_, trivial⟩
          · refine ⟨?_, ?_⟩
            · exact m_.p12
            refine ⟨_, frX5_pop y1_ (sfX5_pop y1_ ), ?_⟩
            intro r60_188 S61_188 q87_ y88_ y89_
            have o189_ : qO S61_188 44 12 = qO S 44 12 := qO_eq (q87_.2.kO (y1_.2.1 _ finC_29).2.1 (by decide) (by decide))
            have t190_ : (qI S61_188 (qO S61_188 44 12) 4).toInt = (qI S (qO S 44 12) 4).toInt := by rw [o189_]; exact congrArg Int32.toInt (q87_.2.kI (j := 4) (y1_.ref m_.p12 (y1_.2.1 _ finC_29).2.1) (by decide) (by decide))
            have t191_ : (qI S61_188 (qO S61_188 44 12) 9).toInt = (qI S (qO S 44 12) 9).toInt := by rw [o189_]; exact congrArg Int32.toInt (q87_.2.kI (j := 9) (y1_.ref m_.p12 (y1_.2.1 _ finC_29).2.1) (by decide) (by decide))
            have t192_ : (qI S61_188 (qO S61_188 44 12) 2).toInt = (qI S (qO S 44 12) 2).toInt := by rw [o189_]; exact congrArg Int32.toInt (q87_.2.kI (j := 2) (y1_.ref m_.p12 (y1_.2.1 _ finC_29).2.1) (by decide) (by decide))
            have t193_ : (qN S61_188 (qO S61_188 (qO S61_188 44 12) 1) : Int) = (qN S (qO S (qO S 44 12) 1) : Int) := by rw [o189_]; exact q87_.2.kL (j := 1) y1_ (y1_.ref m_.p12 (y1_.2.1 _ finC_29).2.1) (g.row (y1_.ref m_.p12 (y1_.2.1 _ finC_29).2.1)).1.2.1 (by decide) (by decide)
            have t194_ : (qN S61_188 (qO S61_188 (qO S61_188 44 12) 8) : Int) = (qN S (qO S (qO S 44 12) 8) : Int) := by rw [o189_]; exact q87_.2.kL (j := 8) y1_ (y1_.ref m_.p12 (y1_.2.1 _ finC_29).2.1) (g.row (y1_.ref m_.p12 (y1_.2.1 _ finC_29).2.1)).1.2.2.2.2.2.2 (by decide) (by decide)
            have t195_ : (qN S61_188 (qO S61_188 (qO S61_188 44 12) 7) : Int) = (qN S (qO S (qO S 44 12) 7) : Int) := by rw [o189_]; exact q87_.2.kL (j := 7) y1_ (y1_.ref m_.p12 (y1_.2.1 _ finC_29).2.1) (g.row (y1_.ref m_.p12 (y1_.2.1 _ finC_29).2.1)).1.2.2.2.2.2.1 (by decide) (by decide)
            have t196_ : (qN S61_188 (qO S61_188 (qO S61_188 44 12) 0) : Int) = (qN S (qO S (qO S 44 12) 0) : Int) := by rw [o189_]; exact q87_.2.kL (j := 0) y1_ (y1_.ref m_.p12 (y1_.2.1 _ finC_29).2.1) (g.row (y1_.ref m_.p12 (y1_.2.1 _ finC_29).2.1)).1.1 (by decide) (by decide)
            have t197_ : (qN S61_188 (qO S61_188 (qO S61_188 44 12) 6) : Int) = (qN S (qO S (qO S 44 12) 6) : Int) := by rw [o189_]; exact q87_.2.kL (j := 6) y1_ (y1_.ref m_.p12 (y1_.2.1 _ finC_29).2.1) (g.row (y1_.ref m_.p12 (y1_.2.1 _ finC_29).2.1)).1.2.2.2.2.1 (by decide) (by decide)
            have t198_ : (qN S61_188 (qO S61_188 (qO S61_188 44 12) 3) : Int) = (qN S (qO S (qO S 44 12) 3) : Int) := by rw [o189_]; exact q87_.2.kL (j := 3) y1_ (y1_.ref m_.p12 (y1_.2.1 _ finC_29).2.1) (g.row (y1_.ref m_.p12 (y1_.2.1 _ finC_29).2.1)).1.2.2.1 (by decide) (by decide)
            have t199_ : (qN S61_188 (qO S61_188 (qO S61_188 44 12) 5) : Int) = (qN S (qO S (qO S 44 12) 5) : Int) := by rw [o189_]; exact q87_.2.kL (j := 5) y1_ (y1_.ref m_.p12 (y1_.2.1 _ finC_29).2.1) (g.row (y1_.ref m_.p12 (y1_.2.1 _ finC_29).2.1)).1.2.2.2.1 (by decide) (by decide)
            have t200_ : (qI S61_188 44 13).toInt = (qI S 44 13).toInt := congrArg Int32.toInt (q87_.2.kI (j := 13) (y1_.2.1 _ finC_29).2.1 (by decide) (by decide))
            have gO_ := g
            have g : ShC B S61_188 := ShC.ca y1_ g q87_.2 y89_ y88_ rfl rfl
            have m_ : McIk S61_188 := McIk.frg y1_ gO_ m_ q87_.2 rfl rfl rfl
            refine ⟨_, frX5_switchChoice y88_ (sgX5_switchChoice y88_ g m_), ?_⟩
            intro r64_201 S65_201 q90_ y91_ y92_
            have o202_ : qO S65_201 44 12 = qO S61_188 44 12 := qO_eq (q90_.2.kO (y88_.2.1 _ finC_29).2.1 (by decide) (by decide))
            have t203_ : (qI S65_201 (qO S65_201 44 12) 4).toInt = (qI S61_188 (qO S61_188 44 12) 4).toInt := by rw [o202_]; exact congrArg Int32.toInt (q90_.2.kI (j := 4) (y88_.ref m_.p12 (y88_.2.1 _ finC_29).2.1) (by decide) (by decide))
            have t204_ : (qI S65_201 (qO S65_201 44 12) 9).toInt = (qI S61_188 (qO S61_188 44 12) 9).toInt := by rw [o202_]; exact congrArg Int32.toInt (q90_.2.kI (j := 9) (y88_.ref m_.p12 (y88_.2.1 _ finC_29).2.1) (by decide) (by decide))
            have t205_ : (qI S65_201 (qO S65_201 44 12) 2).toInt = (qI S61_188 (qO S61_188 44 12) 2).toInt := by rw [o202_]; exact congrArg Int32.toInt (q90_.2.kI (j := 2) (y88_.ref m_.p12 (y88_.2.1 _ finC_29).2.1) (by decide) (by decide))
            have t206_ : (qN S65_201 (qO S65_201 (qO S65_201 44 12) 1) : Int) = (qN S61_188 (qO S61_188 (qO S61_188 44 12) 1) : Int) := by rw [o202_]; exact q90_.2.kL (j := 1) y88_ (y88_.ref m_.p12 (y88_.2.1 _ finC_29).2.1) (g.row (y88_.ref m_.p12 (y88_.2.1 _ finC_29).2.1)).1.2.1 (by decide) (by decide)
            have t207_ : (qN S65_201 (qO S65_201 (qO S65_201 44 12) 8) : Int) = (qN S61_188 (qO S61_188 (qO S61_188 44 12) 8) : Int) := by rw [o202_]; exact q90_.2.kL (j := 8) y88_ (y88_.ref m_.p12 (y88_.2.1 _ finC_29).2.1) (g.row (y88_.ref m_.p12 (y88_.2.1 _ finC_29).2.1)).1.2.2.2.2.2.2 (by decide) (by decide)
            have t208_ : (qN S65_201 (qO S65_201 (qO S65_201 44 12) 7) : Int) = (qN S61_188 (qO S61_188 (qO S61_188 44 12) 7) : Int) := by rw [o202_]; exact q90_.2.kL (j := 7) y88_ (y88_.ref m_.p12 (y88_.2.1 _ finC_29).2.1) (g.row (y88_.ref m_.p12 (y88_.2.1 _ finC_29).2.1)).1.2.2.2.2.2.1 (by decide) (by decide)
            have t209_ : (qN S65_201 (qO S65_201 (qO S65_201 44 12) 0) : Int) = (qN S61_188 (qO S61_188 (qO S61_188 44 12) 0) : Int) := by rw [o202_]; exact q90_.2.kL (j := 0) y88_ (y88_.ref m_.p12 (y88_.2.1 _ finC_29).2.1) (g.row (y88_.ref m_.p12 (y88_.2.1 _ finC_29).2.1)).1.1 (by decide) (by decide)
            have t210_ : (qN S65_201 (qO S65_201 (qO S65_201 44 12) 6) : Int) = (qN S61_188 (qO S61_188 (qO S61_188 44 12) 6) : Int) := by rw [o202_]; exact q90_.2.kL (j := 6) y88_ (y88_.ref m_.p12 (y88_.2.1 _ finC_29).2.1) (g.row (y88_.ref m_.p12 (y88_.2.1 _ finC_29).2.1)).1.2.2.2.2.1 (by decide) (by decide)
            have t211_ : (qN S65_201 (qO S65_201 (qO S65_201 44 12) 3) : Int) = (qN S61_188 (qO S61_188 (qO S61_188 44 12) 3) : Int) := by rw [o202_]; exact q90_.2.kL (j := 3) y88_ (y88_.ref m_.p12 (y88_.2.1 _ finC_29).2.1) (g.row (y88_.ref m_.p12 (y88_.2.1 _ finC_29).2.1)).1.2.2.1 (by decide) (by decide)
            have t212_ : (qN S65_201 (qO S65_201 (qO S65_201 44 12) 5) : Int) = (qN S61_188 (qO S61_188 (qO S61_188 44 12) 5) : Int) := by rw [o202_]; exact q90_.2.kL (j := 5) y88_ (y88_.ref m_.p12 (y88_.2.1 _ finC_29).2.1) (g.row (y88_.ref m_.p12 (y88_.2.1 _ finC_29).2.1)).1.2.2.2.1 (by decide) (by decide)
            have t213_ : (qI S65_201 44 13).toInt = (qI S61_188 44 13).toInt := congrArg Int32.toInt (q90_.2.kI (j := 13) (y88_.2.1 _ finC_29).2.1 (by decide) (by decide))
            have t214_ : (qI S65_201 44 19).toInt = (qI S61_188 44 19).toInt := congrArg Int32.toInt (q90_.2.kI (j := 19) (y88_.2.1 _ finC_29).2.1 (by decide) (by decide))
            have t215_ : (qI S65_201 44 14).toInt = (qI S61_188 44 14).toInt := congrArg Int32.toInt (q90_.2.kI (j := 14) (y88_.2.1 _ finC_29).2.1 (by decide) (by decide))
            have gO_ := g
            have g : ShC B S65_201 := q90_.1.1
            have m_ : McIk S65_201 := q90_.1.2.1
            refine ⟨?_, ?_⟩
            · exact (dd_X8_targetAt y91_ g (by rw [← (o202_.trans o189_)]; exact (y91_.ref m_.p12 (y91_.2.1 _ finC_29).2.1)))
            intro a70_216 ea70_216 
            have ga70_216 := congrArg Int32.toInt ea70_216
            intro S71_217 eS71_217 y93_ y94_
            have f218_ : cfr [] [(45, 13)] S65_201 S71_217 := by rw [eS71_217]; exact cfr.oI y93_ (by decide)
            have o219_ : qO S71_217 44 12 = qO S65_201 44 12 := qO_eq (f218_.kO (y91_.2.1 _ finC_29).2.1 (by decide) (by decide))
            have t220_ : (qI S71_217 (qO S71_217 44 12) 4).toInt = (qI S65_201 (qO S65_201 44 12) 4).toInt := by rw [o219_]; exact congrArg Int32.toInt (f218_.kI (j := 4) (y91_.ref m_.p12 (y91_.2.1 _ finC_29).2.1) (by decide) (by decide))
            have t221_ : (qI S71_217 (qO S71_217 44 12) 9).toInt = (qI S65_201 (qO S65_201 44 12) 9).toInt := by rw [o219_]; exact congrArg Int32.toInt (f218_.kI (j := 9) (y91_.ref m_.p12 (y91_.2.1 _ finC_29).2.1) (by decide) (by decide))
            have t222_ : (qI S71_217 (qO S71_217 44 12) 2).toInt = (qI S65_201 (qO S65_201 44 12) 2).toInt := by rw [o219_]; exact congrArg Int32.toInt (f218_.kI (j := 2) (y91_.ref m_.p12 (y91_.2.1 _ finC_29).2.1) (by decide) (by decide))
            have t223_ : (qN S71_217 (qO S71_217 (qO S71_217 44 12) 1) : Int) = (qN S65_201 (qO S65_201 (qO S65_201 44 12) 1) : Int) := by rw [o219_]; exact f218_.kL (j := 1) y91_ (y91_.ref m_.p12 (y91_.2.1 _ finC_29).2.1) (g.row (y91_.ref m_.p12 (y91_.2.1 _ finC_29).2.1)).1.2.1 (by decide) (by decide)
            have t224_ : (qN S71_217 (qO S71_217 (qO S71_217 44 12) 8) : Int) = (qN S65_201 (qO S65_201 (qO S65_201 44 12) 8) : Int) := by rw [o219_]; exact f218_.kL (j := 8) y91_ (y91_.ref m_.p12 (y91_.2.1 _ finC_29).2.1) (g.row (y91_.ref m_.p12 (y91_.2.1 _ finC_29).2.1)).1.2.2.2.2.2.2 (by decide) (by decide)
            have t225_ : (qN S71_217 (qO S71_217 (qO S71_217 44 12) 7) : Int) = (qN S65_201 (qO S65_201 (qO S65_201 44 12) 7) : Int) := by rw [o219_]; exact f218_.kL (j := 7) y91_ (y91_.ref m_.p12 (y91_.2.1 _ finC_29).2.1) (g.row (y91_.ref m_.p12 (y91_.2.1 _ finC_29).2.1)).1.2.2.2.2.2.1 (by decide) (by decide)
            have t226_ : (qN S71_217 (qO S71_217 (qO S71_217 44 12) 0) : Int) = (qN S65_201 (qO S65_201 (qO S65_201 44 12) 0) : Int) := by rw [o219_]; exact f218_.kL (j := 0) y91_ (y91_.ref m_.p12 (y91_.2.1 _ finC_29).2.1) (g.row (y91_.ref m_.p12 (y91_.2.1 _ finC_29).2.1)).1.1 (by decide) (by decide)
            have t227_ : (qN S71_217 (qO S71_217 (qO S71_217 44 12) 6) : Int) = (qN S65_201 (qO S65_201 (qO S65_201 44 12) 6) : Int) := by rw [o219_]; exact f218_.kL (j := 6) y91_ (y91_.ref m_.p12 (y91_.2.1 _ finC_29).2.1) (g.row (y91_.ref m_.p12 (y91_.2.1 _ finC_29).2.1)).1.2.2.2.2.1 (by decide) (by decide)
            have t228_ : (qN S71_217 (qO S71_217 (qO S71_217 44 12) 3) : Int) = (qN S65_201 (qO S65_201 (qO S65_201 44 12) 3) : Int) := by rw [o219_]; exact f218_.kL (j := 3) y91_ (y91_.ref m_.p12 (y91_.2.1 _ finC_29).2.1) (g.row (y91_.ref m_.p12 (y91_.2.1 _ finC_29).2.1)).1.2.2.1 (by decide) (by decide)
            have t229_ : (qN S71_217 (qO S71_217 (qO S71_217 44 12) 5) : Int) = (qN S65_201 (qO S65_201 (qO S65_201 44 12) 5) : Int) := by rw [o219_]; exact f218_.kL (j := 5) y91_ (y91_.ref m_.p12 (y91_.2.1 _ finC_29).2.1) (g.row (y91_.ref m_.p12 (y91_.2.1 _ finC_29).2.1)).1.2.2.2.1 (by decide) (by decide)
            have t230_ : (qI S71_217 44 19).toInt = (qI S65_201 44 19).toInt := congrArg Int32.toInt (f218_.kI (j := 19) (y91_.2.1 _ finC_29).2.1 (by decide) (by decide))
            have t231_ : (qI S71_217 44 14).toInt = (qI S65_201 44 14).toInt := congrArg Int32.toInt (f218_.kI (j := 14) (y91_.2.1 _ finC_29).2.1 (by decide) (by decide))
            have t232_ : (qI S71_217 44 13).toInt = a70_216.toInt := by rw [eS71_217, qI_wI, if_pos ⟨rfl, rfl⟩]
            have gO_ := g
            have g : ShC B S71_217 := ShC.ws y91_ g f218_ (by rw [eS71_217]; rfl) (by rw [eS71_217]; rfl) (by rw [eS71_217]; rfl) rfl rfl
            have m_ : McIk S71_217 := McIk.frg y91_ gO_ m_ f218_ rfl rfl rfl
            exact ⟨g, m_, trivial⟩
        · refine ⟨_, frX5_isJumpTaken y1_ (sfX5_isJumpTaken y1_ ), ?_⟩
          intro r73_233 S74_233 q95_ y96_ y97_
          have o234_ : qO S74_233 44 12 = qO S 44 12 := qO_eq (q95_.2.kO (y1_.2.1 _ finC_29).2.1 (by decide) (by decide))
          have t235_ : (qI S74_233 (qO S74_233 44 12) 4).toInt = (qI S (qO S 44 12) 4).toInt := by rw [o234_]; exact congrArg Int32.toInt (q95_.2.kI (j := 4) (y1_.ref m_.p12 (y1_.2.1 _ finC_29).2.1) (by decide) (by decide))
          have t236_ : (qI S74_233 (qO S74_233 44 12) 9).toInt = (qI S (qO S 44 12) 9).toInt := by rw [o234_]; exact congrArg Int32.toInt (q95_.2.kI (j := 9) (y1_.ref m_.p12 (y1_.2.1 _ finC_29).2.1) (by decide) (by decide))
          have t237_ : (qI S74_233 (qO S74_233 44 12) 2).toInt = (qI S (qO S 44 12) 2).toInt := by rw [o234_]; exact congrArg Int32.toInt (q95_.2.kI (j := 2) (y1_.ref m_.p12 (y1_.2.1 _ finC_29).2.1) (by decide) (by decide))
          have t238_ : (qN S74_233 (qO S74_233 (qO S74_233 44 12) 1) : Int) = (qN S (qO S (qO S 44 12) 1) : Int) := by rw [o234_]; exact q95_.2.kL (j := 1) y1_ (y1_.ref m_.p12 (y1_.2.1 _ finC_29).2.1) (g.row (y1_.ref m_.p12 (y1_.2.1 _ finC_29).2.1)).1.2.1 (by decide) (by decide)
          have t239_ : (qN S74_233 (qO S74_233 (qO S74_233 44 12) 8) : Int) = (qN S (qO S (qO S 44 12) 8) : Int) := by rw [o234_]; exact q95_.2.kL (j := 8) y1_ (y1_.ref m_.p12 (y1_.2.1 _ finC_29).2.1) (g.row (y1_.ref m_.p12 (y1_.2.1 _ finC_29).2.1)).1.2.2.2.2.2.2 (by decide) (by decide)
          have t240_ : (qN S74_233 (qO S74_233 (qO S74_233 44 12) 7) : Int) = (qN S (qO S (qO S 44 12) 7) : Int) := by rw [o234_]; exact q95_.2.kL (j := 7) y1_ (y1_.ref m_.p12 (y1_.2.1 _ finC_29).2.1) (g.row (y1_.ref m_.p12 (y1_.2.1 _ finC_29).2.1)).1.2.2.2.2.2.1 (by decide) (by decide)
          have t241_ : (qN S74_233 (qO S74_233 (qO S74_233 44 12) 0) : Int) = (qN S (qO S (qO S 44 12) 0) : Int) := by rw [o234_]; exact q95_.2.kL (j := 0) y1_ (y1_.ref m_.p12 (y1_.2.1 _ finC_29).2.1) (g.row (y1_.ref m_.p12 (y1_.2.1 _ finC_29).2.1)).1.1 (by decide) (by decide)
          have t242_ : (qN S74_233 (qO S74_233 (qO S74_233 44 12) 6) : Int) = (qN S (qO S (qO S 44 12) 6) : Int) := by rw [o234_]; exact q95_.2.kL (j := 6) y1_ (y1_.ref m_.p12 (y1_.2.1 _ finC_29).2.1) (g.row (y1_.ref m_.p12 (y1_.2.1 _ finC_29).2.1)).1.2.2.2.2.1 (by decide) (by decide)
          have t243_ : (qN S74_233 (qO S74_233 (qO S74_233 44 12) 3) : Int) = (qN S (qO S (qO S 44 12) 3) : Int) := by rw [o234_]; exact q95_.2.kL (j := 3) y1_ (y1_.ref m_.p12 (y1_.2.1 _ finC_29).2.1) (g.row (y1_.ref m_.p12 (y1_.2.1 _ finC_29).2.1)).1.2.2.1 (by decide) (by decide)
          have t244_ : (qN S74_233 (qO S74_233 (qO S74_233 44 12) 5) : Int) = (qN S (qO S (qO S 44 12) 5) : Int) := by rw [o234_]; exact q95_.2.kL (j := 5) y1_ (y1_.ref m_.p12 (y1_.2.1 _ finC_29).2.1) (g.row (y1_.ref m_.p12 (y1_.2.1 _ finC_29).2.1)).1.2.2.2.1 (by decide) (by decide)
          have t245_ : (qI S74_233 44 13).toInt = (qI S 44 13).toInt := congrArg Int32.toInt (q95_.2.kI (j := 13) (y1_.2.1 _ finC_29).2.1 (by decide) (by decide))
          have gO_ := g
          have g : ShC B S74_233 := ShC.ca y1_ g q95_.2 y97_ y96_ rfl rfl
          have m_ : McIk S74_233 := McIk.frg y1_ gO_ m_ q95_.2 rfl rfl rfl
          refine ⟨fun c246_ => ?_, fun c246_ => ?_⟩
          · unfold w_X5_step_J132
            intro y98_
            intro S76_247 eS76_247 y99_ y100_
            have f248_ : cfr [] [(45, 13)] S74_233 S76_247 := by rw [eS76_247]; exact cfr.oI y99_ (by decide)
            have o249_ : qO S76_247 44 12 = qO S74_233 44 12 := qO_eq (f248_.kO (y98_.2.1 _ finC_29).2.1 (by decide) (by decide))
            have t250_ : (qI S76_247 (qO S76_247 44 12) 4).toInt = (qI S74_233 (qO S74_233 44 12) 4).toInt := by rw [o249_]; exact congrArg Int32.toInt (f248_.kI (j := 4) (y98_.ref m_.p12 (y98_.2.1 _ finC_29).2.1) (by decide) (by decide))
            have t251_ : (qI S76_247 (qO S76_247 44 12) 9).toInt = (qI S74_233 (qO S74_233 44 12) 9).toInt := by rw [o249_]; exact congrArg Int32.toInt (f248_.kI (j := 9) (y98_.ref m_.p12 (y98_.2.1 _ finC_29).2.1) (by decide) (by decide))
            have t252_ : (qI S76_247 (qO S76_247 44 12) 2).toInt = (qI S74_233 (qO S74_233 44 12) 2).toInt := by rw [o249_]; exact congrArg Int32.toInt (f248_.kI (j := 2) (y98_.ref m_.p12 (y98_.2.1 _ finC_29).2.1) (by decide) (by decide))
            have t253_ : (qN S76_247 (qO S76_247 (qO S76_247 44 12) 1) : Int) = (qN S74_233 (qO S74_233 (qO S74_233 44 12) 1) : Int) := by rw [o249_]; exact f248_.kL (j := 1) y98_ (y98_.ref m_.p12 (y98_.2.1 _ finC_29).2.1) (g.row (y98_.ref m_.p12 (y98_.2.1 _ finC_29).2.1)).1.2.1 (by decide) (by decide)
            have t254_ : (qN S76_247 (qO S76_247 (qO S76_247 44 12) 8) : Int) = (qN S74_233 (qO S74_233 (qO S74_233 44 12) 8) : Int) := by rw [o249_]; exact f248_.kL (j := 8) y98_ (y98_.ref m_.p12 (y98_.2.1 _ finC_29).2.1) (g.row (y98_.ref m_.p12 (y98_.2.1 _ finC_29).2.1)).1.2.2.2.2.2.2 (by decide) (by decide)
            have t255_ : (qN S76_247 (qO S76_247 (qO S76_247 44 12) 7) : Int) = (qN S74_233 (qO S74_233 (qO S74_233 44 12) 7) : Int) := by rw [o249_]; exact f248_.kL (j := 7) y98_ (y98_.ref m_.p12 (y98_.2.1 _ finC_29).2.1) (g.row (y98_.ref m_.p12 (y98_.2.1 _ finC_29).2.1)).1.2.2.2.2.2.1 (by decide) (by decide)
            have t256_ : (qN S76_247 (qO S76_247 (qO S76_247 44 12) 0) : Int) = (qN S74_233 (qO S74_233 (qO S74_233 44 12) 0) : Int) := by rw [o249_]; exact f248_.kL (j := 0) y98_ (y98_.ref m_.p12 (y98_.2.1 _ finC_29).2.1) (g.row (y98_.ref m_.p12 (y98_.2.1 _ finC_29).2.1)).1.1 (by decide) (by decide)
            have t257_ : (qN S76_247 (qO S76_247 (qO S76_247 44 12) 6) : Int) = (qN S74_233 (qO S74_233 (qO S74_233 44 12) 6) : Int) := by rw [o249_]; exact f248_.kL (j := 6) y98_ (y98_.ref m_.p12 (y98_.2.1 _ finC_29).2.1) (g.row (y98_.ref m_.p12 (y98_.2.1 _ finC_29).2.1)).1.2.2.2.2.1 (by decide) (by decide)
            have t258_ : (qN S76_247 (qO S76_247 (qO S76_247 44 12) 3) : Int) = (qN S74_233 (qO S74_233 (qO S74_233 44 12) 3) : Int) := by rw [o249_]; exact f248_.kL (j := 3) y98_ (y98_.ref m_.p12 (y98_.2.1 _ finC_29).2.1) (g.row (y98_.ref m_.p12 (y98_.2.1 _ finC_29).2.1)).1.2.2.1 (by decide) (by decide)
            have t259_ : (qN S76_247 (qO S76_247 (qO S76_247 44 12) 5) : Int) = (qN S74_233 (qO S74_233 (qO S74_233 44 12) 5) : Int) := by rw [o249_]; exact f248_.kL (j := 5) y98_ (y98_.ref m_.p12 (y98_.2.1 _ finC_29).2.1) (g.row (y98_.ref m_.p12 (y98_.2.1 _ finC_29).2.1)).1.2.2.2.1 (by decide) (by decide)
            have t260_ : (qI S76_247 44 19).toInt = (qI S74_233 44 19).toInt := congrArg Int32.toInt (f248_.kI (j := 19) (y98_.2.1 _ finC_29).2.1 (by decide) (by decide))
            have t261_ : (qI S76_247 44 14).toInt = (qI S74_233 44 14).toInt := congrArg Int32.toInt (f248_.kI (j := 14) (y98_.2.1 _ finC_29).2.1 (by decide) (by decide))
            have t262_ : (qI S76_247 44 13).toInt = ((qI S74_233 44 13) + (1 : Int32)).toInt := by rw [eS76_247, qI_wI, if_pos ⟨rfl, rfl⟩]
            have gO_ := g
            have g : ShC B S76_247 := ShC.ws y98_ g f248_ (by rw [eS76_247]; rfl) (by rw [eS76_247]; rfl) (by rw [eS76_247]; rfl) rfl rfl
            have m_ : McIk S76_247 := McIk.frg y98_ gO_ m_ f248_ rfl rfl rfl
            exact ⟨g, m_, trivial⟩
          · refine ⟨?_, ?_⟩
            · exact m_.p12
            refine ⟨?_, ?_⟩
            · exact (dd_X8_argAt y96_ g (y96_.ref m_.p12 (y96_.2.1 _ finC_29).2.1))
            intro a84_263 ea84_263 
            unfold w_X5_step_J132
            intro y101_
            intro S76_264 eS76_264 y102_ y103_
            have f265_ : cfr [] [(45, 13)] S74_233 S76_264 := by rw [eS76_264]; exact cfr.oI y102_ (by decide)
            have o266_ : qO S76_264 44 12 = qO S74_233 44 12 := qO_eq (f265_.kO (y101_.2.1 _ finC_29).2.1 (by decide) (by decide))
            have t267_ : (qI S76_264 (qO S76_264 44 12) 4).toInt = (qI S74_233 (qO S74_233 44 12) 4).toInt := by rw [o266_]; exact congrArg Int32.toInt (f265_.kI (j := 4) (y101_.ref m_.p12 (y101_.2.1 _ finC_29).2.1) (by decide) (by decide))
            have t268_ : (qI S76_264 (qO S76_264 44 12) 9).toInt = (qI S74_233 (qO S74_233 44 12) 9).toInt := by rw [o266_]; exact congrArg Int32.toInt (f265_.kI (j := 9) (y101_.ref m_.p12 (y101_.2.1 _ finC_29).2.1) (by decide) (by decide))
            have t269_ : (qI S76_264 (qO S76_264 44 12) 2).toInt = (qI S74_233 (qO S74_233 44 12) 2).toInt := by rw [o266_]; exact congrArg Int32.toInt (f265_.kI (j := 2) (y101_.ref m_.p12 (y101_.2.1 _ finC_29).2.1) (by decide) (by decide))
            have t270_ : (qN S76_264 (qO S76_264 (qO S76_264 44 12) 1) : Int) = (qN S74_233 (qO S74_233 (qO S74_233 44 12) 1) : Int) := by rw [o266_]; exact f265_.kL (j := 1) y101_ (y101_.ref m_.p12 (y101_.2.1 _ finC_29).2.1) (g.row (y101_.ref m_.p12 (y101_.2.1 _ finC_29).2.1)).1.2.1 (by decide) (by decide)
            have t271_ : (qN S76_264 (qO S76_264 (qO S76_264 44 12) 8) : Int) = (qN S74_233 (qO S74_233 (qO S74_233 44 12) 8) : Int) := by rw [o266_]; exact f265_.kL (j := 8) y101_ (y101_.ref m_.p12 (y101_.2.1 _ finC_29).2.1) (g.row (y101_.ref m_.p12 (y101_.2.1 _ finC_29).2.1)).1.2.2.2.2.2.2 (by decide) (by decide)
            have t272_ : (qN S76_264 (qO S76_264 (qO S76_264 44 12) 7) : Int) = (qN S74_233 (qO S74_233 (qO S74_233 44 12) 7) : Int) := by rw [o266_]; exact f265_.kL (j := 7) y101_ (y101_.ref m_.p12 (y101_.2.1 _ finC_29).2.1) (g.row (y101_.ref m_.p12 (y101_.2.1 _ finC_29).2.1)).1.2.2.2.2.2.1 (by decide) (by decide)
            have t273_ : (qN S76_264 (qO S76_264 (qO S76_264 44 12) 0) : Int) = (qN S74_233 (qO S74_233 (qO S74_233 44 12) 0) : Int) := by rw [o266_]; exact f265_.kL (j := 0) y101_ (y101_.ref m_.p12 (y101_.2.1 _ finC_29).2.1) (g.row (y101_.ref m_.p12 (y101_.2.1 _ finC_29).2.1)).1.1 (by decide) (by decide)
            have t274_ : (qN S76_264 (qO S76_264 (qO S76_264 44 12) 6) : Int) = (qN S74_233 (qO S74_233 (qO S74_233 44 12) 6) : Int) := by rw [o266_]; exact f265_.kL (j := 6) y101_ (y101_.ref m_.p12 (y101_.2.1 _ finC_29).2.1) (g.row (y101_.ref m_.p12 (y101_.2.1 _ finC_29).2.1)).1.2.2.2.2.1 (by decide) (by decide)
            have t275_ : (qN S76_264 (qO S76_264 (qO S76_264 44 12) 3) : Int) = (qN S74_233 (qO S74_233 (qO S74_233 44 12) 3) : Int) := by rw [o266_]; exact f265_.kL (j := 3) y101_ (y101_.ref m_.p12 (y101_.2.1 _ finC_29).2.1) (g.row (y101_.ref m_.p12 (y101_.2.1 _ finC_29).2.1)).1.2.2.1 (by decide) (by decide)
            have t276_ : (qN S76_264 (qO S76_264 (qO S76_264 44 12) 5) : Int) = (qN S74_233 (qO S74_233 (qO S74_233 44 12) 5) : Int) := by rw [o266_]; exact f265_.kL (j := 5) y101_ (y101_.ref m_.p12 (y101_.2.1 _ finC_29).2.1) (g.row (y101_.ref m_.p12 (y101_.2.1 _ finC_29).2.1)).1.2.2.2.1 (by decide) (by decide)
            have t277_ : (qI S76_264 44 19).toInt = (qI S74_233 44 19).toInt := congrArg Int32.toInt (f265_.kI (j := 19) (y101_.2.1 _ finC_29).2.1 (by decide) (by decide))
            have t278_ : (qI S76_264 44 14).toInt = (qI S74_233 44 14).toInt := congrArg Int32.toInt (f265_.kI (j := 14) (y101_.2.1 _ finC_29).2.1 (by decide) (by decide))
            have t279_ : (qI S76_264 44 13).toInt = (a84_263.toInt32).toInt := by rw [eS76_264, qI_wI, if_pos ⟨rfl, rfl⟩]
            have gO_ := g
            have g : ShC B S76_264 := ShC.ws y101_ g f265_ (by rw [eS76_264]; rfl) (by rw [eS76_264]; rfl) (by rw [eS76_264]; rfl) rfl rfl
            have m_ : McIk S76_264 := McIk.frg y101_ gO_ m_ f265_ rfl rfl rfl
            exact ⟨g, m_, trivial⟩
      · refine ⟨?_, ?_⟩
        · exact dd_X6_gives
        intro a88_280 ea88_280 
        have ga88_280 := congrArg Int32.toInt ea88_280
        refine ⟨?_, ?_⟩
        · exact dd_X6_takes
        intro a92_281 ea92_281 
        have ga92_281 := congrArg Int32.toInt ea92_281
        refine ⟨_, frX5_pop_ y1_ (sfX5_pop_ y1_ ), ?_⟩
        intro r94_282 S95_282 q104_ y105_ y106_
        have o283_ : qO S95_282 44 12 = qO S 44 12 := qO_eq (q104_.2.kO (y1_.2.1 _ finC_29).2.1 (by decide) (by decide))
        have t284_ : (qI S95_282 (qO S95_282 44 12) 4).toInt = (qI S (qO S 44 12) 4).toInt := by rw [o283_]; exact congrArg Int32.toInt (q104_.2.kI (j := 4) (y1_.ref m_.p12 (y1_.2.1 _ finC_29).2.1) (by decide) (by decide))
        have t285_ : (qI S95_282 (qO S95_282 44 12) 9).toInt = (qI S (qO S 44 12) 9).toInt := by rw [o283_]; exact congrArg Int32.toInt (q104_.2.kI (j := 9) (y1_.ref m_.p12 (y1_.2.1 _ finC_29).2.1) (by decide) (by decide))
        have t286_ : (qI S95_282 (qO S95_282 44 12) 2).toInt = (qI S (qO S 44 12) 2).toInt := by rw [o283_]; exact congrArg Int32.toInt (q104_.2.kI (j := 2) (y1_.ref m_.p12 (y1_.2.1 _ finC_29).2.1) (by decide) (by decide))
        have t287_ : (qN S95_282 (qO S95_282 (qO S95_282 44 12) 1) : Int) = (qN S (qO S (qO S 44 12) 1) : Int) := by rw [o283_]; exact q104_.2.kL (j := 1) y1_ (y1_.ref m_.p12 (y1_.2.1 _ finC_29).2.1) (g.row (y1_.ref m_.p12 (y1_.2.1 _ finC_29).2.1)).1.2.1 (by decide) (by decide)
        have t288_ : (qN S95_282 (qO S95_282 (qO S95_282 44 12) 8) : Int) = (qN S (qO S (qO S 44 12) 8) : Int) := by rw [o283_]; exact q104_.2.kL (j := 8) y1_ (y1_.ref m_.p12 (y1_.2.1 _ finC_29).2.1) (g.row (y1_.ref m_.p12 (y1_.2.1 _ finC_29).2.1)).1.2.2.2.2.2.2 (by decide) (by decide)
        have t289_ : (qN S95_282 (qO S95_282 (qO S95_282 44 12) 7) : Int) = (qN S (qO S (qO S 44 12) 7) : Int) := by rw [o283_]; exact q104_.2.kL (j := 7) y1_ (y1_.ref m_.p12 (y1_.2.1 _ finC_29).2.1) (g.row (y1_.ref m_.p12 (y1_.2.1 _ finC_29).2.1)).1.2.2.2.2.2.1 (by decide) (by decide)
        have t290_ : (qN S95_282 (qO S95_282 (qO S95_282 44 12) 0) : Int) = (qN S (qO S (qO S 44 12) 0) : Int) := by rw [o283_]; exact q104_.2.kL (j := 0) y1_ (y1_.ref m_.p12 (y1_.2.1 _ finC_29).2.1) (g.row (y1_.ref m_.p12 (y1_.2.1 _ finC_29).2.1)).1.1 (by decide) (by decide)
        have t291_ : (qN S95_282 (qO S95_282 (qO S95_282 44 12) 6) : Int) = (qN S (qO S (qO S 44 12) 6) : Int) := by rw [o283_]; exact q104_.2.kL (j := 6) y1_ (y1_.ref m_.p12 (y1_.2.1 _ finC_29).2.1) (g.row (y1_.ref m_.p12 (y1_.2.1 _ finC_29).2.1)).1.2.2.2.2.1 (by decide) (by decide)
        have t292_ : (qN S95_282 (qO S95_282 (qO S95_282 44 12) 3) : Int) = (qN S (qO S (qO S 44 12) 3) : Int) := by rw [o283_]; exact q104_.2.kL (j := 3) y1_ (y1_.ref m_.p12 (y1_.2.1 _ finC_29).2.1) (g.row (y1_.ref m_.p12 (y1_.2.1 _ finC_29).2.1)).1.2.2.1 (by decide) (by decide)
        have t293_ : (qN S95_282 (qO S95_282 (qO S95_282 44 12) 5) : Int) = (qN S (qO S (qO S 44 12) 5) : Int) := by rw [o283_]; exact q104_.2.kL (j := 5) y1_ (y1_.ref m_.p12 (y1_.2.1 _ finC_29).2.1) (g.row (y1_.ref m_.p12 (y1_.2.1 _ finC_29).2.1)).1.2.2.2.1 (by decide) (by decide)
        have t294_ : (qI S95_282 44 13).toInt = (qI S 44 13).toInt := congrArg Int32.toInt (q104_.2.kI (j := 13) (y1_.2.1 _ finC_29).2.1 (by decide) (by decide))
        have gO_ := g
        have g : ShC B S95_282 := ShC.ca y1_ g q104_.2 y106_ y105_ rfl rfl
        have m_ : McIk S95_282 := McIk.frg y1_ gO_ m_ q104_.2 rfl rfl rfl
        refine ⟨?_, ?_⟩
        · exact dd_X6_unary
        intro a100_295 ea100_295 
        refine ⟨_, frX5_push_ y105_ (sfX5_push_ y105_ ), ?_⟩
        intro S102_296 q107_ y108_ y109_
        have o297_ : qO S102_296 44 12 = qO S95_282 44 12 := qO_eq (q107_.2.kO (y105_.2.1 _ finC_29).2.1 (by decide) (by decide))
        have t298_ : (qI S102_296 (qO S102_296 44 12) 4).toInt = (qI S95_282 (qO S95_282 44 12) 4).toInt := by rw [o297_]; exact congrArg Int32.toInt (q107_.2.kI (j := 4) (y105_.ref m_.p12 (y105_.2.1 _ finC_29).2.1) (by decide) (by decide))
        have t299_ : (qI S102_296 (qO S102_296 44 12) 9).toInt = (qI S95_282 (qO S95_282 44 12) 9).toInt := by rw [o297_]; exact congrArg Int32.toInt (q107_.2.kI (j := 9) (y105_.ref m_.p12 (y105_.2.1 _ finC_29).2.1) (by decide) (by decide))
        have t300_ : (qI S102_296 (qO S102_296 44 12) 2).toInt = (qI S95_282 (qO S95_282 44 12) 2).toInt := by rw [o297_]; exact congrArg Int32.toInt (q107_.2.kI (j := 2) (y105_.ref m_.p12 (y105_.2.1 _ finC_29).2.1) (by decide) (by decide))
        have t301_ : (qN S102_296 (qO S102_296 (qO S102_296 44 12) 1) : Int) = (qN S95_282 (qO S95_282 (qO S95_282 44 12) 1) : Int) := by rw [o297_]; exact q107_.2.kL (j := 1) y105_ (y105_.ref m_.p12 (y105_.2.1 _ finC_29).2.1) (g.row (y105_.ref m_.p12 (y105_.2.1 _ finC_29).2.1)).1.2.1 (by decide) (by decide)
        have t302_ : (qN S102_296 (qO S102_296 (qO S102_296 44 12) 8) : Int) = (qN S95_282 (qO S95_282 (qO S95_282 44 12) 8) : Int) := by rw [o297_]; exact q107_.2.kL (j := 8) y105_ (y105_.ref m_.p12 (y105_.2.1 _ finC_29).2.1) (g.row (y105_.ref m_.p12 (y105_.2.1 _ finC_29).2.1)).1.2.2.2.2.2.2 (by decide) (by decide)
        have t303_ : (qN S102_296 (qO S102_296 (qO S102_296 44 12) 7) : Int) = (qN S95_282 (qO S95_282 (qO S95_282 44 12) 7) : Int) := by rw [o297_]; exact q107_.2.kL (j := 7) y105_ (y105_.ref m_.p12 (y105_.2.1 _ finC_29).2.1) (g.row (y105_.ref m_.p12 (y105_.2.1 _ finC_29).2.1)).1.2.2.2.2.2.1 (by decide) (by decide)
        have t304_ : (qN S102_296 (qO S102_296 (qO S102_296 44 12) 0) : Int) = (qN S95_282 (qO S95_282 (qO S95_282 44 12) 0) : Int) := by rw [o297_]; exact q107_.2.kL (j := 0) y105_ (y105_.ref m_.p12 (y105_.2.1 _ finC_29).2.1) (g.row (y105_.ref m_.p12 (y105_.2.1 _ finC_29).2.1)).1.1 (by decide) (by decide)
        have t305_ : (qN S102_296 (qO S102_296 (qO S102_296 44 12) 6) : Int) = (qN S95_282 (qO S95_282 (qO S95_282 44 12) 6) : Int) := by rw [o297_]; exact q107_.2.kL (j := 6) y105_ (y105_.ref m_.p12 (y105_.2.1 _ finC_29).2.1) (g.row (y105_.ref m_.p12 (y105_.2.1 _ finC_29).2.1)).1.2.2.2.2.1 (by decide) (by decide)
        have t306_ : (qN S102_296 (qO S102_296 (qO S102_296 44 12) 3) : Int) = (qN S95_282 (qO S95_282 (qO S95_282 44 12) 3) : Int) := by rw [o297_]; exact q107_.2.kL (j := 3) y105_ (y105_.ref m_.p12 (y105_.2.1 _ finC_29).2.1) (g.row (y105_.ref m_.p12 (y105_.2.1 _ finC_29).2.1)).1.2.2.1 (by decide) (by decide)
        have t307_ : (qN S102_296 (qO S102_296 (qO S102_296 44 12) 5) : Int) = (qN S95_282 (qO S95_282 (qO S95_282 44 12) 5) : Int) := by rw [o297_]; exact q107_.2.kL (j := 5) y105_ (y105_.ref m_.p12 (y105_.2.1 _ finC_29).2.1) (g.row (y105_.ref m_.p12 (y105_.2.1 _ finC_29).2.1)).1.2.2.2.1 (by decide) (by decide)
        have t308_ : (qI S102_296 44 13).toInt = (qI S95_282 44 13).toInt := congrArg Int32.toInt (q107_.2.kI (j := 13) (y105_.2.1 _ finC_29).2.1 (by decide) (by decide))
        have gO_ := g
        have g : ShC B S102_296 := ShC.ca y105_ g q107_.2 y109_ y108_ rfl rfl
        have m_ : McIk S102_296 := McIk.frg y105_ gO_ m_ q107_.2 rfl rfl rfl
        intro S105_309 eS105_309 y110_ y111_
        have f310_ : cfr [] [(45, 13)] S102_296 S105_309 := by rw [eS105_309]; exact cfr.oI y110_ (by decide)
        have o311_ : qO S105_309 44 12 = qO S102_296 44 12 := qO_eq (f310_.kO (y108_.2.1 _ finC_29).2.1 (by decide) (by decide))
        have t312_ : (qI S105_309 (qO S105_309 44 12) 4).toInt = (qI S102_296 (qO S102_296 44 12) 4).toInt := by rw [o311_]; exact congrArg Int32.toInt (f310_.kI (j := 4) (y108_.ref m_.p12 (y108_.2.1 _ finC_29).2.1) (by decide) (by decide))
        have t313_ : (qI S105_309 (qO S105_309 44 12) 9).toInt = (qI S102_296 (qO S102_296 44 12) 9).toInt := by rw [o311_]; exact congrArg Int32.toInt (f310_.kI (j := 9) (y108_.ref m_.p12 (y108_.2.1 _ finC_29).2.1) (by decide) (by decide))
        have t314_ : (qI S105_309 (qO S105_309 44 12) 2).toInt = (qI S102_296 (qO S102_296 44 12) 2).toInt := by rw [o311_]; exact congrArg Int32.toInt (f310_.kI (j := 2) (y108_.ref m_.p12 (y108_.2.1 _ finC_29).2.1) (by decide) (by decide))
        have t315_ : (qN S105_309 (qO S105_309 (qO S105_309 44 12) 1) : Int) = (qN S102_296 (qO S102_296 (qO S102_296 44 12) 1) : Int) := by rw [o311_]; exact f310_.kL (j := 1) y108_ (y108_.ref m_.p12 (y108_.2.1 _ finC_29).2.1) (g.row (y108_.ref m_.p12 (y108_.2.1 _ finC_29).2.1)).1.2.1 (by decide) (by decide)
        have t316_ : (qN S105_309 (qO S105_309 (qO S105_309 44 12) 8) : Int) = (qN S102_296 (qO S102_296 (qO S102_296 44 12) 8) : Int) := by rw [o311_]; exact f310_.kL (j := 8) y108_ (y108_.ref m_.p12 (y108_.2.1 _ finC_29).2.1) (g.row (y108_.ref m_.p12 (y108_.2.1 _ finC_29).2.1)).1.2.2.2.2.2.2 (by decide) (by decide)
        have t317_ : (qN S105_309 (qO S105_309 (qO S105_309 44 12) 7) : Int) = (qN S102_296 (qO S102_296 (qO S102_296 44 12) 7) : Int) := by rw [o311_]; exact f310_.kL (j := 7) y108_ (y108_.ref m_.p12 (y108_.2.1 _ finC_29).2.1) (g.row (y108_.ref m_.p12 (y108_.2.1 _ finC_29).2.1)).1.2.2.2.2.2.1 (by decide) (by decide)
        have t318_ : (qN S105_309 (qO S105_309 (qO S105_309 44 12) 0) : Int) = (qN S102_296 (qO S102_296 (qO S102_296 44 12) 0) : Int) := by rw [o311_]; exact f310_.kL (j := 0) y108_ (y108_.ref m_.p12 (y108_.2.1 _ finC_29).2.1) (g.row (y108_.ref m_.p12 (y108_.2.1 _ finC_29).2.1)).1.1 (by decide) (by decide)
        have t319_ : (qN S105_309 (qO S105_309 (qO S105_309 44 12) 6) : Int) = (qN S102_296 (qO S102_296 (qO S102_296 44 12) 6) : Int) := by rw [o311_]; exact f310_.kL (j := 6) y108_ (y108_.ref m_.p12 (y108_.2.1 _ finC_29).2.1) (g.row (y108_.ref m_.p12 (y108_.2.1 _ finC_29).2.1)).1.2.2.2.2.1 (by decide) (by decide)
        have t320_ : (qN S105_309 (qO S105_309 (qO S105_309 44 12) 3) : Int) = (qN S102_296 (qO S102_296 (qO S102_296 44 12) 3) : Int) := by rw [o311_]; exact f310_.kL (j := 3) y108_ (y108_.ref m_.p12 (y108_.2.1 _ finC_29).2.1) (g.row (y108_.ref m_.p12 (y108_.2.1 _ finC_29).2.1)).1.2.2.1 (by decide) (by decide)
        have t321_ : (qN S105_309 (qO S105_309 (qO S105_309 44 12) 5) : Int) = (qN S102_296 (qO S102_296 (qO S102_296 44 12) 5) : Int) := by rw [o311_]; exact f310_.kL (j := 5) y108_ (y108_.ref m_.p12 (y108_.2.1 _ finC_29).2.1) (g.row (y108_.ref m_.p12 (y108_.2.1 _ finC_29).2.1)).1.2.2.2.1 (by decide) (by decide)
        have t322_ : (qI S105_309 44 19).toInt = (qI S102_296 44 19).toInt := congrArg Int32.toInt (f310_.kI (j := 19) (y108_.2.1 _ finC_29).2.1 (by decide) (by decide))
        have t323_ : (qI S105_309 44 14).toInt = (qI S102_296 44 14).toInt := congrArg Int32.toInt (f310_.kI (j := 14) (y108_.2.1 _ finC_29).2.1 (by decide) (by decide))
        have t324_ : (qI S105_309 44 13).toInt = ((qI S102_296 44 13) + (1 : Int32)).toInt := by rw [eS105_309, qI_wI, if_pos ⟨rfl, rfl⟩]
        have gO_ := g
        have g : ShC B S105_309 := ShC.ws y108_ g f310_ (by rw [eS105_309]; rfl) (by rw [eS105_309]; rfl) (by rw [eS105_309]; rfl) rfl rfl
        have m_ : McIk S105_309 := McIk.frg y108_ gO_ m_ f310_ rfl rfl rfl
        exact ⟨g, m_, trivial⟩
    · refine ⟨_, frX5_calculate y1_ (sgX5_calculate y1_ g m_), ?_⟩
      intro S107_325 q112_ y113_ y114_
      have gO_ := g
      have g : ShC B S107_325 := q112_.1.1
      have m_ : McIk S107_325 := q112_.1.2.1
      exact ⟨g, m_, trivial⟩
  · intro S111_326 eS111_326 y115_ y116_
    have f327_ : cfr [] [(45, 19)] S S111_326 := by rw [eS111_326]; exact cfr.oI y115_ (by decide)
    have o328_ : qO S111_326 44 12 = qO S 44 12 := qO_eq (f327_.kO (hw.2.1 _ finC_29).2.1 (by decide) (by decide))
    have t329_ : (qI S111_326 (qO S111_326 44 12) 4).toInt = (qI S (qO S 44 12) 4).toInt := by rw [o328_]; exact congrArg Int32.toInt (f327_.kI (j := 4) (hw.ref m_.p12 (hw.2.1 _ finC_29).2.1) (by decide) (by decide))
    have t330_ : (qI S111_326 (qO S111_326 44 12) 9).toInt = (qI S (qO S 44 12) 9).toInt := by rw [o328_]; exact congrArg Int32.toInt (f327_.kI (j := 9) (hw.ref m_.p12 (hw.2.1 _ finC_29).2.1) (by decide) (by decide))
    have t331_ : (qI S111_326 (qO S111_326 44 12) 2).toInt = (qI S (qO S 44 12) 2).toInt := by rw [o328_]; exact congrArg Int32.toInt (f327_.kI (j := 2) (hw.ref m_.p12 (hw.2.1 _ finC_29).2.1) (by decide) (by decide))
    have t332_ : (qN S111_326 (qO S111_326 (qO S111_326 44 12) 1) : Int) = (qN S (qO S (qO S 44 12) 1) : Int) := by rw [o328_]; exact f327_.kL (j := 1) hw (hw.ref m_.p12 (hw.2.1 _ finC_29).2.1) (g.row (hw.ref m_.p12 (hw.2.1 _ finC_29).2.1)).1.2.1 (by decide) (by decide)
    have t333_ : (qN S111_326 (qO S111_326 (qO S111_326 44 12) 8) : Int) = (qN S (qO S (qO S 44 12) 8) : Int) := by rw [o328_]; exact f327_.kL (j := 8) hw (hw.ref m_.p12 (hw.2.1 _ finC_29).2.1) (g.row (hw.ref m_.p12 (hw.2.1 _ finC_29).2.1)).1.2.2.2.2.2.2 (by decide) (by decide)
    have t334_ : (qN S111_326 (qO S111_326 (qO S111_326 44 12) 7) : Int) = (qN S (qO S (qO S 44 12) 7) : Int) := by rw [o328_]; exact f327_.kL (j := 7) hw (hw.ref m_.p12 (hw.2.1 _ finC_29).2.1) (g.row (hw.ref m_.p12 (hw.2.1 _ finC_29).2.1)).1.2.2.2.2.2.1 (by decide) (by decide)
    have t335_ : (qN S111_326 (qO S111_326 (qO S111_326 44 12) 0) : Int) = (qN S (qO S (qO S 44 12) 0) : Int) := by rw [o328_]; exact f327_.kL (j := 0) hw (hw.ref m_.p12 (hw.2.1 _ finC_29).2.1) (g.row (hw.ref m_.p12 (hw.2.1 _ finC_29).2.1)).1.1 (by decide) (by decide)
    have t336_ : (qN S111_326 (qO S111_326 (qO S111_326 44 12) 6) : Int) = (qN S (qO S (qO S 44 12) 6) : Int) := by rw [o328_]; exact f327_.kL (j := 6) hw (hw.ref m_.p12 (hw.2.1 _ finC_29).2.1) (g.row (hw.ref m_.p12 (hw.2.1 _ finC_29).2.1)).1.2.2.2.2.1 (by decide) (by decide)
    have t337_ : (qN S111_326 (qO S111_326 (qO S111_326 44 12) 3) : Int) = (qN S (qO S (qO S 44 12) 3) : Int) := by rw [o328_]; exact f327_.kL (j := 3) hw (hw.ref m_.p12 (hw.2.1 _ finC_29).2.1) (g.row (hw.ref m_.p12 (hw.2.1 _ finC_29).2.1)).1.2.2.1 (by decide) (by decide)
    have t338_ : (qN S111_326 (qO S111_326 (qO S111_326 44 12) 5) : Int) = (qN S (qO S (qO S 44 12) 5) : Int) := by rw [o328_]; exact f327_.kL (j := 5) hw (hw.ref m_.p12 (hw.2.1 _ finC_29).2.1) (g.row (hw.ref m_.p12 (hw.2.1 _ finC_29).2.1)).1.2.2.2.1 (by decide) (by decide)
    have t339_ : (qI S111_326 44 13).toInt = (qI S 44 13).toInt := congrArg Int32.toInt (f327_.kI (j := 13) (hw.2.1 _ finC_29).2.1 (by decide) (by decide))
    have t340_ : (qI S111_326 44 14).toInt = (qI S 44 14).toInt := congrArg Int32.toInt (f327_.kI (j := 14) (hw.2.1 _ finC_29).2.1 (by decide) (by decide))
    have t341_ : (qI S111_326 44 19).toInt = ((qI S 44 19) + (1 : Int32)).toInt := by rw [eS111_326, qI_wI, if_pos ⟨rfl, rfl⟩]
    have gO_ := g
    have g : ShC B S111_326 := ShC.ws hw g f327_ (by rw [eS111_326]; rfl) (by rw [eS111_326]; rfl) (by rw [eS111_326]; rfl) rfl rfl
    have m_ : McIk S111_326 := McIk.frg hw gO_ m_ f327_ rfl rfl rfl
    unfold w_X5_step_J40
    intro y117_
    refine ⟨?_, ?_⟩
    · exact dd_X6_isBinary
    intro a16_342 ea16_342 
    have ga16_342 := congrArg Int32.toInt ea16_342
    refine ⟨fun c343_ => ?_, fun c343_ => ?_⟩
    · refine ⟨?_, ?_⟩
      · exact dd_X6_isUnary
      intro a21_344 ea21_344 
      have ga21_344 := congrArg Int32.toInt ea21_344
      refine ⟨fun c345_ => ?_, fun c345_ => ?_⟩
      · refine ⟨?_, ?_⟩
        · exact dd_X6_isJump
        intro a26_346 ea26_346 
        have ga26_346 := congrArg Int32.toInt ea26_346
        refine ⟨fun c347_ => ?_, fun c347_ => ?_⟩
        · refine ⟨?_, ?_⟩
          · exact dd_X6_isSwitch
          intro a31_348 ea31_348 
          have ga31_348 := congrArg Int32.toInt ea31_348
          refine ⟨fun c349_ => ?_, fun c349_ => ?_⟩
          · refine ⟨fun c350_ => ?_, fun c350_ => ?_⟩
            · unfold w_X5_step_J203
              intro y118_
              refine ⟨fun c351_ => ?_, fun c351_ => ?_⟩
              · unfold w_X5_step_J225
                intro y119_
                refine ⟨fun c352_ => ?_, fun c352_ => ?_⟩
                · unfold w_X5_step_J244
                  intro y120_
                  refine ⟨_, frX5_useStage y120_ (sgX5_useStage y120_ g m_), ?_⟩
                  intro S34_353 q121_ y122_ y123_
                  have gO_ := g
                  have g : ShC B S34_353 := q121_.1.1
                  have m_ : McIk S34_353 := q121_.1.2.1
                  exact ⟨g, m_, trivial⟩
                · refine ⟨fun c354_ => ?_, fun c354_ => ?_⟩
                  · unfold w_X5_step_J244
                    intro y124_
                    refine ⟨_, frX5_useStage y124_ (sgX5_useStage y124_ g m_), ?_⟩
                    intro S34_355 q125_ y126_ y127_
                    have gO_ := g
                    have g : ShC B S34_355 := q125_.1.1
                    have m_ : McIk S34_355 := q125_.1.2.1
                    exact ⟨g, m_, trivial⟩
                  · refine ⟨fun c356_ => ?_, fun c356_ => ?_⟩
                    · unfold w_X5_step_J244
                      intro y128_
                      refine ⟨_, frX5_useStage y128_ (sgX5_useStage y128_ g m_), ?_⟩
                      intro S34_357 q129_ y130_ y131_
                      have gO_ := g
                      have g : ShC B S34_357 := q129_.1.1
                      have m_ : McIk S34_357 := q129_.1.2.1
                      exact ⟨g, m_, trivial⟩
                    · refine ⟨_, frX5_move y119_ (sgX5_move y119_ g m_), ?_⟩
                      intro S41_358 q132_ y133_ y134_
                      have o359_ : qO S41_358 44 12 = qO S111_326 44 12 := qO_eq (q132_.2.kO (y119_.2.1 _ finC_29).2.1 (by decide) (by decide))
                      have t360_ : (qI S41_358 (qO S41_358 44 12) 4).toInt = (qI S111_326 (qO S111_326 44 12) 4).toInt := by rw [o359_]; exact congrArg Int32.toInt (q132_.2.kI (j := 4) (y119_.ref m_.p12 (y119_.2.1 _ finC_29).2.1) (by decide) (by decide))
                      have t361_ : (qI S41_358 (qO S41_358 44 12) 9).toInt = (qI S111_326 (qO S111_326 44 12) 9).toInt := by rw [o359_]; exact congrArg Int32.toInt (q132_.2.kI (j := 9) (y119_.ref m_.p12 (y119_.2.1 _ finC_29).2.1) (by decide) (by decide))
                      have t362_ : (qI S41_358 (qO S41_358 44 12) 2).toInt = (qI S111_326 (qO S111_326 44 12) 2).toInt := by rw [o359_]; exact congrArg Int32.toInt (q132_.2.kI (j := 2) (y119_.ref m_.p12 (y119_.2.1 _ finC_29).2.1) (by decide) (by decide))
                      have t363_ : (qN S41_358 (qO S41_358 (qO S41_358 44 12) 1) : Int) = (qN S111_326 (qO S111_326 (qO S111_326 44 12) 1) : Int) := by rw [o359_]; exact q132_.2.kL (j := 1) y119_ (y119_.ref m_.p12 (y119_.2.1 _ finC_29).2.1) (g.row (y119_.ref m_.p12 (y119_.2.1 _ finC_29).2.1)).1.2.1 (by decide) (by decide)
                      have t364_ : (qN S41_358 (qO S41_358 (qO S41_358 44 12) 8) : Int) = (qN S111_326 (qO S111_326 (qO S111_326 44 12) 8) : Int) := by rw [o359_]; exact q132_.2.kL (j := 8) y119_ (y119_.ref m_.p12 (y119_.2.1 _ finC_29).2.1) (g.row (y119_.ref m_.p12 (y119_.2.1 _ finC_29).2.1)).1.2.2.2.2.2.2 (by decide) (by decide)
                      have t365_ : (qN S41_358 (qO S41_358 (qO S41_358 44 12) 7) : Int) = (qN S111_326 (qO S111_326 (qO S111_326 44 12) 7) : Int) := by rw [o359_]; exact q132_.2.kL (j := 7) y119_ (y119_.ref m_.p12 (y119_.2.1 _ finC_29).2.1) (g.row (y119_.ref m_.p12 (y119_.2.1 _ finC_29).2.1)).1.2.2.2.2.2.1 (by decide) (by decide)
                      have t366_ : (qN S41_358 (qO S41_358 (qO S41_358 44 12) 0) : Int) = (qN S111_326 (qO S111_326 (qO S111_326 44 12) 0) : Int) := by rw [o359_]; exact q132_.2.kL (j := 0) y119_ (y119_.ref m_.p12 (y119_.2.1 _ finC_29).2.1) (g.row (y119_.ref m_.p12 (y119_.2.1 _ finC_29).2.1)).1.1 (by decide) (by decide)
                      have t367_ : (qN S41_358 (qO S41_358 (qO S41_358 44 12) 6) : Int) = (qN S111_326 (qO S111_326 (qO S111_326 44 12) 6) : Int) := by rw [o359_]; exact q132_.2.kL (j := 6) y119_ (y119_.ref m_.p12 (y119_.2.1 _ finC_29).2.1) (g.row (y119_.ref m_.p12 (y119_.2.1 _ finC_29).2.1)).1.2.2.2.2.1 (by decide) (by decide)
                      have t368_ : (qN S41_358 (qO S41_358 (qO S41_358 44 12) 3) : Int) = (qN S111_326 (qO S111_326 (qO S111_326 44 12) 3) : Int) := by rw [o359_]; exact q132_.2.kL (j := 3) y119_ (y119_.ref m_.p12 (y119_.2.1 _ finC_29).2.1) (g.row (y119_.ref m_.p12 (y119_.2.1 _ finC_29).2.1)).1.2.2.1 (by decide) (by decide)
                      have t369_ : (qN S41_358 (qO S41_358 (qO S41_358 44 12) 5) : Int) = (qN S111_326 (qO S111_326 (qO S111_326 44 12) 5) : Int) := by rw [o359_]; exact q132_.2.kL (j := 5) y119_ (y119_.ref m_.p12 (y119_.2.1 _ finC_29).2.1) (g.row (y119_.ref m_.p12 (y119_.2.1 _ finC_29).2.1)).1.2.2.2.1 (by decide) (by decide)
                      have t370_ : (qI S41_358 44 13).toInt = (qI S111_326 44 13).toInt := congrArg Int32.toInt (q132_.2.kI (j := 13) (y119_.2.1 _ finC_29).2.1 (by decide) (by decide))
                      have gO_ := g
                      have g : ShC B S41_358 := q132_.1.1
                      have m_ : McIk S41_358 := q132_.1.2.1
                      intro S44_371 eS44_371 y135_ y136_
                      have f372_ : cfr [] [(45, 13)] S41_358 S44_371 := by rw [eS44_371]; exact cfr.oI y135_ (by decide)
                      have o373_ : qO S44_371 44 12 = qO S41_358 44 12 := qO_eq (f372_.kO (y133_.2.1 _ finC_29).2.1 (by decide) (by decide))
                      have t374_ : (qI S44_371 (qO S44_371 44 12) 4).toInt = (qI S41_358 (qO S41_358 44 12) 4).toInt := by rw [o373_]; exact congrArg Int32.toInt (f372_.kI (j := 4) (y133_.ref m_.p12 (y133_.2.1 _ finC_29).2.1) (by decide) (by decide))
                      have t375_ : (qI S44_371 (qO S44_371 44 12) 9).toInt = (qI S41_358 (qO S41_358 44 12) 9).toInt := by rw [o373_]; exact congrArg Int32.toInt (f372_.kI (j := 9) (y133_.ref m_.p12 (y133_.2.1 _ finC_29).2.1) (by decide) (by decide))
                      have t376_ : (qI S44_371 (qO S44_371 44 12) 2).toInt = (qI S41_358 (qO S41_358 44 12) 2).toInt := by rw [o373_]; exact congrArg Int32.toInt (f372_.kI (j := 2) (y133_.ref m_.p12 (y133_.2.1 _ finC_29).2.1) (by decide) (by decide))
                      have t377_ : (qN S44_371 (qO S44_371 (qO S44_371 44 12) 1) : Int) = (qN S41_358 (qO S41_358 (qO S41_358 44 12) 1) : Int) := by rw [o373_]; exact f372_.kL (j := 1) y133_ (y133_.ref m_.p12 (y133_.2.1 _ finC_29).2.1) (g.row (y133_.ref m_.p12 (y133_.2.1 _ finC_29).2.1)).1.2.1 (by decide) (by decide)
                      have t378_ : (qN S44_371 (qO S44_371 (qO S44_371 44 12) 8) : Int) = (qN S41_358 (qO S41_358 (qO S41_358 44 12) 8) : Int) := by rw [o373_]; exact f372_.kL (j := 8) y133_ (y133_.ref m_.p12 (y133_.2.1 _ finC_29).2.1) (g.row (y133_.ref m_.p12 (y133_.2.1 _ finC_29).2.1)).1.2.2.2.2.2.2 (by decide) (by decide)
                      have t379_ : (qN S44_371 (qO S44_371 (qO S44_371 44 12) 7) : Int) = (qN S41_358 (qO S41_358 (qO S41_358 44 12) 7) : Int) := by rw [o373_]; exact f372_.kL (j := 7) y133_ (y133_.ref m_.p12 (y133_.2.1 _ finC_29).2.1) (g.row (y133_.ref m_.p12 (y133_.2.1 _ finC_29).2.1)).1.2.2.2.2.2.1 (by decide) (by decide)
                      have t380_ : (qN S44_371 (qO S44_371 (qO S44_371 44 12) 0) : Int) = (qN S41_358 (qO S41_358 (qO S41_358 44 12) 0) : Int) := by rw [o373_]; exact f372_.kL (j := 0) y133_ (y133_.ref m_.p12 (y133_.2.1 _ finC_29).2.1) (g.row (y133_.ref m_.p12 (y133_.2.1 _ finC_29).2.1)).1.1 (by decide) (by decide)
                      have t381_ : (qN S44_371 (qO S44_371 (qO S44_371 44 12) 6) : Int) = (qN S41_358 (qO S41_358 (qO S41_358 44 12) 6) : Int) := by rw [o373_]; exact f372_.kL (j := 6) y133_ (y133_.ref m_.p12 (y133_.2.1 _ finC_29).2.1) (g.row (y133_.ref m_.p12 (y133_.2.1 _ finC_29).2.1)).1.2.2.2.2.1 (by decide) (by decide)
                      have t382_ : (qN S44_371 (qO S44_371 (qO S44_371 44 12) 3) : Int) = (qN S41_358 (qO S41_358 (qO S41_358 44 12) 3) : Int) := by rw [o373_]; exact f372_.kL (j := 3) y133_ (y133_.ref m_.p12 (y133_.2.1 _ finC_29).2.1) (g.row (y133_.ref m_.p12 (y133_.2.1 _ finC_29).2.1)).1.2.2.1 (by decide) (by decide)
                      have t383_ : (qN S44_371 (qO S44_371 (qO S44_371 44 12) 5) : Int) = (qN S41_358 (qO S41_358 (qO S41_358 44 12) 5) : Int) := by rw [o373_]; exact f372_.kL (j := 5) y133_ (y133_.ref m_.p12 (y133_.2.1 _ finC_29).2.1) (g.row (y133_.ref m_.p12 (y133_.2.1 _ finC_29).2.1)).1.2.2.2.1 (by decide) (by decide)
                      have t384_ : (qI S44_371 44 19).toInt = (qI S41_358 44 19).toInt := congrArg Int32.toInt (f372_.kI (j := 19) (y133_.2.1 _ finC_29).2.1 (by decide) (by decide))
                      have t385_ : (qI S44_371 44 14).toInt = (qI S41_358 44 14).toInt := congrArg Int32.toInt (f372_.kI (j := 14) (y133_.2.1 _ finC_29).2.1 (by decide) (by decide))
                      have t386_ : (qI S44_371 44 13).toInt = ((qI S41_358 44 13) + (1 : Int32)).toInt := by rw [eS44_371, qI_wI, if_pos ⟨rfl, rfl⟩]
                      have gO_ := g
                      have g : ShC B S44_371 := ShC.ws y133_ g f372_ (by rw [eS44_371]; rfl) (by rw [eS44_371]; rfl) (by rw [eS44_371]; rfl) rfl rfl
                      have m_ : McIk S44_371 := McIk.frg y133_ gO_ m_ f372_ rfl rfl rfl
                      exact ⟨g, m_, trivial⟩
              · refine ⟨fun c387_ => ?_, fun c387_ => ?_⟩
                · unfold w_X5_step_J225
                  intro y137_
                  refine ⟨fun c388_ => ?_, fun c388_ => ?_⟩
                  · unfold w_X5_step_J244
                    intro y138_
                    refine ⟨_, frX5_useStage y138_ (sgX5_useStage y138_ g m_), ?_⟩
                    intro S34_389 q139_ y140_ y141_
                    have gO_ := g
                    have g : ShC B S34_389 := q139_.1.1
                    have m_ : McIk S34_389 := q139_.1.2.1
                    exact ⟨g, m_, trivial⟩
                  · refine ⟨fun c390_ => ?_, fun c390_ => ?_⟩
                    · unfold w_X5_step_J244
                      intro y142_
                      refine ⟨_, frX5_useStage y142_ (sgX5_useStage y142_ g m_), ?_⟩
                      intro S34_391 q143_ y144_ y145_
                      have gO_ := g
                      have g : ShC B S34_391 := q143_.1.1
                      have m_ : McIk S34_391 := q143_.1.2.1
                      exact ⟨g, m_, trivial⟩
                    · refine ⟨fun c392_ => ?_, fun c392_ => ?_⟩
                      · unfold w_X5_step_J244
                        intro y146_
                        refine ⟨_, frX5_useStage y146_ (sgX5_useStage y146_ g m_), ?_⟩
                        intro S34_393 q147_ y148_ y149_
                        have gO_ := g
                        have g : ShC B S34_393 := q147_.1.1
                        have m_ : McIk S34_393 := q147_.1.2.1
                        exact ⟨g, m_, trivial⟩
                      · refine ⟨_, frX5_move y137_ (sgX5_move y137_ g m_), ?_⟩
                        intro S41_394 q150_ y151_ y152_
                        have o395_ : qO S41_394 44 12 = qO S111_326 44 12 := qO_eq (q150_.2.kO (y137_.2.1 _ finC_29).2.1 (by decide) (by decide))
                        have t396_ : (qI S41_394 (qO S41_394 44 12) 4).toInt = (qI S111_326 (qO S111_326 44 12) 4).toInt := by rw [o395_]; exact congrArg Int32.toInt (q150_.2.kI (j := 4) (y137_.ref m_.p12 (y137_.2.1 _ finC_29).2.1) (by decide) (by decide))
                        have t397_ : (qI S41_394 (qO S41_394 44 12) 9).toInt = (qI S111_326 (qO S111_326 44 12) 9).toInt := by rw [o395_]; exact congrArg Int32.toInt (q150_.2.kI (j := 9) (y137_.ref m_.p12 (y137_.2.1 _ finC_29).2.1) (by decide) (by decide))
                        have t398_ : (qI S41_394 (qO S41_394 44 12) 2).toInt = (qI S111_326 (qO S111_326 44 12) 2).toInt := by rw [o395_]; exact congrArg Int32.toInt (q150_.2.kI (j := 2) (y137_.ref m_.p12 (y137_.2.1 _ finC_29).2.1) (by decide) (by decide))
                        have t399_ : (qN S41_394 (qO S41_394 (qO S41_394 44 12) 1) : Int) = (qN S111_326 (qO S111_326 (qO S111_326 44 12) 1) : Int) := by rw [o395_]; exact q150_.2.kL (j := 1) y137_ (y137_.ref m_.p12 (y137_.2.1 _ finC_29).2.1) (g.row (y137_.ref m_.p12 (y137_.2.1 _ finC_29).2.1)).1.2.1 (by decide) (by decide)
                        have t400_ : (qN S41_394 (qO S41_394 (qO S41_394 44 12) 8) : Int) = (qN S111_326 (qO S111_326 (qO S111_326 44 12) 8) : Int) := by rw [o395_]; exact q150_.2.kL (j := 8) y137_ (y137_.ref m_.p12 (y137_.2.1 _ finC_29).2.1) (g.row (y137_.ref m_.p12 (y137_.2.1 _ finC_29).2.1)).1.2.2.2.2.2.2 (by decide) (by decide)
                        have t401_ : (qN S41_394 (qO S41_394 (qO S41_394 44 12) 7) : Int) = (qN S111_326 (qO S111_326 (qO S111_326 44 12) 7) : Int) := by rw [o395_]; exact q150_.2.kL (j := 7) y137_ (y137_.ref m_.p12 (y137_.2.1 _ finC_29).2.1) (g.row (y137_.ref m_.p12 (y137_.2.1 _ finC_29).2.1)).1.2.2.2.2.2.1 (by decide) (by decide)
                        have t402_ : (qN S41_394 (qO S41_394 (qO S41_394 44 12) 0) : Int) = (qN S111_326 (qO S111_326 (qO S111_326 44 12) 0) : Int) := by rw [o395_]; exact q150_.2.kL (j := 0) y137_ (y137_.ref m_.p12 (y137_.2.1 _ finC_29).2.1) (g.row (y137_.ref m_.p12 (y137_.2.1 _ finC_29).2.1)).1.1 (by decide) (by decide)
                        have t403_ : (qN S41_394 (qO S41_394 (qO S41_394 44 12) 6) : Int) = (qN S111_326 (qO S111_326 (qO S111_326 44 12) 6) : Int) := by rw [o395_]; exact q150_.2.kL (j := 6) y137_ (y137_.ref m_.p12 (y137_.2.1 _ finC_29).2.1) (g.row (y137_.ref m_.p12 (y137_.2.1 _ finC_29).2.1)).1.2.2.2.2.1 (by decide) (by decide)
                        have t404_ : (qN S41_394 (qO S41_394 (qO S41_394 44 12) 3) : Int) = (qN S111_326 (qO S111_326 (qO S111_326 44 12) 3) : Int) := by rw [o395_]; exact q150_.2.kL (j := 3) y137_ (y137_.ref m_.p12 (y137_.2.1 _ finC_29).2.1) (g.row (y137_.ref m_.p12 (y137_.2.1 _ finC_29).2.1)).1.2.2.1 (by decide) (by decide)
                        have t405_ : (qN S41_394 (qO S41_394 (qO S41_394 44 12) 5) : Int) = (qN S111_326 (qO S111_326 (qO S111_326 44 12) 5) : Int) := by rw [o395_]; exact q150_.2.kL (j := 5) y137_ (y137_.ref m_.p12 (y137_.2.1 _ finC_29).2.1) (g.row (y137_.ref m_.p12 (y137_.2.1 _ finC_29).2.1)).1.2.2.2.1 (by decide) (by decide)
                        have t406_ : (qI S41_394 44 13).toInt = (qI S111_326 44 13).toInt := congrArg Int32.toInt (q150_.2.kI (j := 13) (y137_.2.1 _ finC_29).2.1 (by decide) (by decide))
                        have gO_ := g
                        have g : ShC B S41_394 := q150_.1.1
                        have m_ : McIk S41_394 := q150_.1.2.1
                        intro S44_407 eS44_407 y153_ y154_
                        have f408_ : cfr [] [(45, 13)] S41_394 S44_407 := by rw [eS44_407]; exact cfr.oI y153_ (by decide)
                        have o409_ : qO S44_407 44 12 = qO S41_394 44 12 := qO_eq (f408_.kO (y151_.2.1 _ finC_29).2.1 (by decide) (by decide))
                        have t410_ : (qI S44_407 (qO S44_407 44 12) 4).toInt = (qI S41_394 (qO S41_394 44 12) 4).toInt := by rw [o409_]; exact congrArg Int32.toInt (f408_.kI (j := 4) (y151_.ref m_.p12 (y151_.2.1 _ finC_29).2.1) (by decide) (by decide))
                        have t411_ : (qI S44_407 (qO S44_407 44 12) 9).toInt = (qI S41_394 (qO S41_394 44 12) 9).toInt := by rw [o409_]; exact congrArg Int32.toInt (f408_.kI (j := 9) (y151_.ref m_.p12 (y151_.2.1 _ finC_29).2.1) (by decide) (by decide))
                        have t412_ : (qI S44_407 (qO S44_407 44 12) 2).toInt = (qI S41_394 (qO S41_394 44 12) 2).toInt := by rw [o409_]; exact congrArg Int32.toInt (f408_.kI (j := 2) (y151_.ref m_.p12 (y151_.2.1 _ finC_29).2.1) (by decide) (by decide))
                        have t413_ : (qN S44_407 (qO S44_407 (qO S44_407 44 12) 1) : Int) = (qN S41_394 (qO S41_394 (qO S41_394 44 12) 1) : Int) := by rw [o409_]; exact f408_.kL (j := 1) y151_ (y151_.ref m_.p12 (y151_.2.1 _ finC_29).2.1) (g.row (y151_.ref m_.p12 (y151_.2.1 _ finC_29).2.1)).1.2.1 (by decide) (by decide)
                        have t414_ : (qN S44_407 (qO S44_407 (qO S44_407 44 12) 8) : Int) = (qN S41_394 (qO S41_394 (qO S41_394 44 12) 8) : Int) := by rw [o409_]; exact f408_.kL (j := 8) y151_ (y151_.ref m_.p12 (y151_.2.1 _ finC_29).2.1) (g.row (y151_.ref m_.p12 (y151_.2.1 _ finC_29).2.1)).1.2.2.2.2.2.2 (by decide) (by decide)
                        have t415_ : (qN S44_407 (qO S44_407 (qO S44_407 44 12) 7) : Int) = (qN S41_394 (qO S41_394 (qO S41_394 44 12) 7) : Int) := by rw [o409_]; exact f408_.kL (j := 7) y151_ (y151_.ref m_.p12 (y151_.2.1 _ finC_29).2.1) (g.row (y151_.ref m_.p12 (y151_.2.1 _ finC_29).2.1)).1.2.2.2.2.2.1 (by decide) (by decide)
                        have t416_ : (qN S44_407 (qO S44_407 (qO S44_407 44 12) 0) : Int) = (qN S41_394 (qO S41_394 (qO S41_394 44 12) 0) : Int) := by rw [o409_]; exact f408_.kL (j := 0) y151_ (y151_.ref m_.p12 (y151_.2.1 _ finC_29).2.1) (g.row (y151_.ref m_.p12 (y151_.2.1 _ finC_29).2.1)).1.1 (by decide) (by decide)
                        have t417_ : (qN S44_407 (qO S44_407 (qO S44_407 44 12) 6) : Int) = (qN S41_394 (qO S41_394 (qO S41_394 44 12) 6) : Int) := by rw [o409_]; exact f408_.kL (j := 6) y151_ (y151_.ref m_.p12 (y151_.2.1 _ finC_29).2.1) (g.row (y151_.ref m_.p12 (y151_.2.1 _ finC_29).2.1)).1.2.2.2.2.1 (by decide) (by decide)
                        have t418_ : (qN S44_407 (qO S44_407 (qO S44_407 44 12) 3) : Int) = (qN S41_394 (qO S41_394 (qO S41_394 44 12) 3) : Int) := by rw [o409_]; exact f408_.kL (j := 3) y151_ (y151_.ref m_.p12 (y151_.2.1 _ finC_29).2.1) (g.row (y151_.ref m_.p12 (y151_.2.1 _ finC_29).2.1)).1.2.2.1 (by decide) (by decide)
                        have t419_ : (qN S44_407 (qO S44_407 (qO S44_407 44 12) 5) : Int) = (qN S41_394 (qO S41_394 (qO S41_394 44 12) 5) : Int) := by rw [o409_]; exact f408_.kL (j := 5) y151_ (y151_.ref m_.p12 (y151_.2.1 _ finC_29).2.1) (g.row (y151_.ref m_.p12 (y151_.2.1 _ finC_29).2.1)).1.2.2.2.1 (by decide) (by decide)
                        have t420_ : (qI S44_407 44 19).toInt = (qI S41_394 44 19).toInt := congrArg Int32.toInt (f408_.kI (j := 19) (y151_.2.1 _ finC_29).2.1 (by decide) (by decide))
                        have t421_ : (qI S44_407 44 14).toInt = (qI S41_394 44 14).toInt := congrArg Int32.toInt (f408_.kI (j := 14) (y151_.2.1 _ finC_29).2.1 (by decide) (by decide))
                        have t422_ : (qI S44_407 44 13).toInt = ((qI S41_394 44 13) + (1 : Int32)).toInt := by rw [eS44_407, qI_wI, if_pos ⟨rfl, rfl⟩]
                        have gO_ := g
                        have g : ShC B S44_407 := ShC.ws y151_ g f408_ (by rw [eS44_407]; rfl) (by rw [eS44_407]; rfl) (by rw [eS44_407]; rfl) rfl rfl
                        have m_ : McIk S44_407 := McIk.frg y151_ gO_ m_ f408_ rfl rfl rfl
                        exact ⟨g, m_, trivial⟩
                · refine ⟨_, frX5_leave y118_ (sgX5_leave y118_ g m_), ?_⟩
                  intro S48_423 q155_ y156_ y157_
                  have gO_ := g
                  have g : ShC B S48_423 := q155_.1.1
                  have m_ : McIk S48_423 := q155_.1.2.1
                  exact ⟨g, m_, trivial⟩
            · refine ⟨fun c424_ => ?_, fun c424_ => ?_⟩
              · unfold w_X5_step_J203
                intro y158_
                refine ⟨fun c425_ => ?_, fun c425_ => ?_⟩
                · unfold w_X5_step_J225
                  intro y159_
                  refine ⟨fun c426_ => ?_, fun c426_ => ?_⟩
                  · unfold w_X5_step_J244
                    intro y160_
                    refine ⟨_, frX5_useStage y160_ (sgX5_useStage y160_ g m_), ?_⟩
                    intro S34_427 q161_ y162_ y163_
                    have gO_ := g
                    have g : ShC B S34_427 := q161_.1.1
                    have m_ : McIk S34_427 := q161_.1.2.1
                    exact ⟨g, m_, trivial⟩
                  · refine ⟨fun c428_ => ?_, fun c428_ => ?_⟩
                    · unfold w_X5_step_J244
                      intro y164_
                      refine ⟨_, frX5_useStage y164_ (sgX5_useStage y164_ g m_), ?_⟩
                      intro S34_429 q165_ y166_ y167_
                      have gO_ := g
                      have g : ShC B S34_429 := q165_.1.1
                      have m_ : McIk S34_429 := q165_.1.2.1
                      exact ⟨g, m_, trivial⟩
                    · refine ⟨fun c430_ => ?_, fun c430_ => ?_⟩
                      · unfold w_X5_step_J244
                        intro y168_
                        refine ⟨_, frX5_useStage y168_ (sgX5_useStage y168_ g m_), ?_⟩
                        intro S34_431 q169_ y170_ y171_
                        have gO_ := g
                        have g : ShC B S34_431 := q169_.1.1
                        have m_ : McIk S34_431 := q169_.1.2.1
                        exact ⟨g, m_, trivial⟩
                      · refine ⟨_, frX5_move y159_ (sgX5_move y159_ g m_), ?_⟩
                        intro S41_432 q172_ y173_ y174_
                        have o433_ : qO S41_432 44 12 = qO S111_326 44 12 := qO_eq (q172_.2.kO (y159_.2.1 _ finC_29).2.1 (by decide) (by decide))
                        have t434_ : (qI S41_432 (qO S41_432 44 12) 4).toInt = (qI S111_326 (qO S111_326 44 12) 4).toInt := by rw [o433_]; exact congrArg Int32.toInt (q172_.2.kI (j := 4) (y159_.ref m_.p12 (y159_.2.1 _ finC_29).2.1) (by decide) (by decide))
                        have t435_ : (qI S41_432 (qO S41_432 44 12) 9).toInt = (qI S111_326 (qO S111_326 44 12) 9).toInt := by rw [o433_]; exact congrArg Int32.toInt (q172_.2.kI (j := 9) (y159_.ref m_.p12 (y159_.2.1 _ finC_29).2.1) (by decide) (by decide))
                        have t436_ : (qI S41_432 (qO S41_432 44 12) 2).toInt = (qI S111_326 (qO S111_326 44 12) 2).toInt := by rw [o433_]; exact congrArg Int32.toInt (q172_.2.kI (j := 2) (y159_.ref m_.p12 (y159_.2.1 _ finC_29).2.1) (by decide) (by decide))
                        have t437_ : (qN S41_432 (qO S41_432 (qO S41_432 44 12) 1) : Int) = (qN S111_326 (qO S111_326 (qO S111_326 44 12) 1) : Int) := by rw [o433_]; exact q172_.2.kL (j := 1) y159_ (y159_.ref m_.p12 (y159_.2.1 _ finC_29).2.1) (g.row (y159_.ref m_.p12 (y159_.2.1 _ finC_29).2.1)).1.2.1 (by decide) (by decide)
                        have t438_ : (qN S41_432 (qO S41_432 (qO S41_432 44 12) 8) : Int) = (qN S111_326 (qO S111_326 (qO S111_326 44 12) 8) : Int) := by rw [o433_]; exact q172_.2.kL (j := 8) y159_ (y159_.ref m_.p12 (y159_.2.1 _ finC_29).2.1) (g.row (y159_.ref m_.p12 (y159_.2.1 _ finC_29).2.1)).1.2.2.2.2.2.2 (by decide) (by decide)
                        have t439_ : (qN S41_432 (qO S41_432 (qO S41_432 44 12) 7) : Int) = (qN S111_326 (qO S111_326 (qO S111_326 44 12) 7) : Int) := by rw [o433_]; exact q172_.2.kL (j := 7) y159_ (y159_.ref m_.p12 (y159_.2.1 _ finC_29).2.1) (g.row (y159_.ref m_.p12 (y159_.2.1 _ finC_29).2.1)).1.2.2.2.2.2.1 (by decide) (by decide)
                        have t440_ : (qN S41_432 (qO S41_432 (qO S41_432 44 12) 0) : Int) = (qN S111_326 (qO S111_326 (qO S111_326 44 12) 0) : Int) := by rw [o433_]; exact q172_.2.kL (j := 0) y159_ (y159_.ref m_.p12 (y159_.2.1 _ finC_29).2.1) (g.row (y159_.ref m_.p12 (y159_.2.1 _ finC_29).2.1)).1.1 (by decide) (by decide)
                        have t441_ : (qN S41_432 (qO S41_432 (qO S41_432 44 12) 6) : Int) = (qN S111_326 (qO S111_326 (qO S111_326 44 12) 6) : Int) := by rw [o433_]; exact q172_.2.kL (j := 6) y159_ (y159_.ref m_.p12 (y159_.2.1 _ finC_29).2.1) (g.row (y159_.ref m_.p12 (y159_.2.1 _ finC_29).2.1)).1.2.2.2.2.1 (by decide) (by decide)
                        have t442_ : (qN S41_432 (qO S41_432 (qO S41_432 44 12) 3) : Int) = (qN S111_326 (qO S111_326 (qO S111_326 44 12) 3) : Int) := by rw [o433_]; exact q172_.2.kL (j := 3) y159_ (y159_.ref m_.p12 (y159_.2.1 _ finC_29).2.1) (g.row (y159_.ref m_.p12 (y159_.2.1 _ finC_29).2.1)).1.2.2.1 (by decide) (by decide)
                        have t443_ : (qN S41_432 (qO S41_432 (qO S41_432 44 12) 5) : Int) = (qN S111_326 (qO S111_326 (qO S111_326 44 12) 5) : Int) := by rw [o433_]; exact q172_.2.kL (j := 5) y159_ (y159_.ref m_.p12 (y159_.2.1 _ finC_29).2.1) (g.row (y159_.ref m_.p12 (y159_.2.1 _ finC_29).2.1)).1.2.2.2.1 (by decide) (by decide)
                        have t444_ : (qI S41_432 44 13).toInt = (qI S111_326 44 13).toInt := congrArg Int32.toInt (q172_.2.kI (j := 13) (y159_.2.1 _ finC_29).2.1 (by decide) (by decide))
                        have gO_ := g
                        have g : ShC B S41_432 := q172_.1.1
                        have m_ : McIk S41_432 := q172_.1.2.1
                        intro S44_445 eS44_445 y175_ y176_
                        have f446_ : cfr [] [(45, 13)] S41_432 S44_445 := by rw [eS44_445]; exact cfr.oI y175_ (by decide)
                        have o447_ : qO S44_445 44 12 = qO S41_432 44 12 := qO_eq (f446_.kO (y173_.2.1 _ finC_29).2.1 (by decide) (by decide))
                        have t448_ : (qI S44_445 (qO S44_445 44 12) 4).toInt = (qI S41_432 (qO S41_432 44 12) 4).toInt := by rw [o447_]; exact congrArg Int32.toInt (f446_.kI (j := 4) (y173_.ref m_.p12 (y173_.2.1 _ finC_29).2.1) (by decide) (by decide))
                        have t449_ : (qI S44_445 (qO S44_445 44 12) 9).toInt = (qI S41_432 (qO S41_432 44 12) 9).toInt := by rw [o447_]; exact congrArg Int32.toInt (f446_.kI (j := 9) (y173_.ref m_.p12 (y173_.2.1 _ finC_29).2.1) (by decide) (by decide))
                        have t450_ : (qI S44_445 (qO S44_445 44 12) 2).toInt = (qI S41_432 (qO S41_432 44 12) 2).toInt := by rw [o447_]; exact congrArg Int32.toInt (f446_.kI (j := 2) (y173_.ref m_.p12 (y173_.2.1 _ finC_29).2.1) (by decide) (by decide))
                        have t451_ : (qN S44_445 (qO S44_445 (qO S44_445 44 12) 1) : Int) = (qN S41_432 (qO S41_432 (qO S41_432 44 12) 1) : Int) := by rw [o447_]; exact f446_.kL (j := 1) y173_ (y173_.ref m_.p12 (y173_.2.1 _ finC_29).2.1) (g.row (y173_.ref m_.p12 (y173_.2.1 _ finC_29).2.1)).1.2.1 (by decide) (by decide)
                        have t452_ : (qN S44_445 (qO S44_445 (qO S44_445 44 12) 8) : Int) = (qN S41_432 (qO S41_432 (qO S41_432 44 12) 8) : Int) := by rw [o447_]; exact f446_.kL (j := 8) y173_ (y173_.ref m_.p12 (y173_.2.1 _ finC_29).2.1) (g.row (y173_.ref m_.p12 (y173_.2.1 _ finC_29).2.1)).1.2.2.2.2.2.2 (by decide) (by decide)
                        have t453_ : (qN S44_445 (qO S44_445 (qO S44_445 44 12) 7) : Int) = (qN S41_432 (qO S41_432 (qO S41_432 44 12) 7) : Int) := by rw [o447_]; exact f446_.kL (j := 7) y173_ (y173_.ref m_.p12 (y173_.2.1 _ finC_29).2.1) (g.row (y173_.ref m_.p12 (y173_.2.1 _ finC_29).2.1)).1.2.2.2.2.2.1 (by decide) (by decide)
                        have t454_ : (qN S44_445 (qO S44_445 (qO S44_445 44 12) 0) : Int) = (qN S41_432 (qO S41_432 (qO S41_432 44 12) 0) : Int) := by rw [o447_]; exact f446_.kL (j := 0) y173_ (y173_.ref m_.p12 (y173_.2.1 _ finC_29).2.1) (g.row (y173_.ref m_.p12 (y173_.2.1 _ finC_29).2.1)).1.1 (by decide) (by decide)
                        have t455_ : (qN S44_445 (qO S44_445 (qO S44_445 44 12) 6) : Int) = (qN S41_432 (qO S41_432 (qO S41_432 44 12) 6) : Int) := by rw [o447_]; exact f446_.kL (j := 6) y173_ (y173_.ref m_.p12 (y173_.2.1 _ finC_29).2.1) (g.row (y173_.ref m_.p12 (y173_.2.1 _ finC_29).2.1)).1.2.2.2.2.1 (by decide) (by decide)
                        have t456_ : (qN S44_445 (qO S44_445 (qO S44_445 44 12) 3) : Int) = (qN S41_432 (qO S41_432 (qO S41_432 44 12) 3) : Int) := by rw [o447_]; exact f446_.kL (j := 3) y173_ (y173_.ref m_.p12 (y173_.2.1 _ finC_29).2.1) (g.row (y173_.ref m_.p12 (y173_.2.1 _ finC_29).2.1)).1.2.2.1 (by decide) (by decide)
                        have t457_ : (qN S44_445 (qO S44_445 (qO S44_445 44 12) 5) : Int) = (qN S41_432 (qO S41_432 (qO S41_432 44 12) 5) : Int) := by rw [o447_]; exact f446_.kL (j := 5) y173_ (y173_.ref m_.p12 (y173_.2.1 _ finC_29).2.1) (g.row (y173_.ref m_.p12 (y173_.2.1 _ finC_29).2.1)).1.2.2.2.1 (by decide) (by decide)
                        have t458_ : (qI S44_445 44 19).toInt = (qI S41_432 44 19).toInt := congrArg Int32.toInt (f446_.kI (j := 19) (y173_.2.1 _ finC_29).2.1 (by decide) (by decide))
                        have t459_ : (qI S44_445 44 14).toInt = (qI S41_432 44 14).toInt := congrArg Int32.toInt (f446_.kI (j := 14) (y173_.2.1 _ finC_29).2.1 (by decide) (by decide))
                        have t460_ : (qI S44_445 44 13).toInt = ((qI S41_432 44 13) + (1 : Int32)).toInt := by rw [eS44_445, qI_wI, if_pos ⟨rfl, rfl⟩]
                        have gO_ := g
                        have g : ShC B S44_445 := ShC.ws y173_ g f446_ (by rw [eS44_445]; rfl) (by rw [eS44_445]; rfl) (by rw [eS44_445]; rfl) rfl rfl
                        have m_ : McIk S44_445 := McIk.frg y173_ gO_ m_ f446_ rfl rfl rfl
                        exact ⟨g, m_, trivial⟩
                · refine ⟨fun c461_ => ?_, fun c461_ => ?_⟩
                  · unfold w_X5_step_J225
                    intro y177_
                    refine ⟨fun c462_ => ?_, fun c462_ => ?_⟩
                    · unfold w_X5_step_J244
                      intro y178_
                      refine ⟨_, frX5_useStage y178_ (sgX5_useStage y178_ g m_), ?_⟩
                      intro S34_463 q179_ y180_ y181_
                      have gO_ := g
                      have g : ShC B S34_463 := q179_.1.1
                      have m_ : McIk S34_463 := q179_.1.2.1
                      exact ⟨g, m_, trivial⟩
                    · refine ⟨fun c464_ => ?_, fun c464_ => ?_⟩
                      · unfold w_X5_step_J244
                        intro y182_
                        refine ⟨_, frX5_useStage y182_ (sgX5_useStage y182_ g m_), ?_⟩
                        intro S34_465 q183_ y184_ y185_
                        have gO_ := g
                        have g : ShC B S34_465 := q183_.1.1
                        have m_ : McIk S34_465 := q183_.1.2.1
                        exact ⟨g, m_, trivial⟩
                      · refine ⟨fun c466_ => ?_, fun c466_ => ?_⟩
                        · unfold w_X5_step_J244
                          intro y186_
                          refine ⟨_, frX5_useStage y186_ (sgX5_useStage y186_ g m_), ?_⟩
                          intro S34_467 q187_ y188_ y189_
                          have gO_ := g
                          have g : ShC B S34_467 := q187_.1.1
                          have m_ : McIk S34_467 := q187_.1.2.1
                          exact ⟨g, m_, trivial⟩
                        · refine ⟨_, frX5_move y177_ (sgX5_move y177_ g m_), ?_⟩
                          intro S41_468 q190_ y191_ y192_
                          have o469_ : qO S41_468 44 12 = qO S111_326 44 12 := qO_eq (q190_.2.kO (y177_.2.1 _ finC_29).2.1 (by decide) (by decide))
                          have t470_ : (qI S41_468 (qO S41_468 44 12) 4).toInt = (qI S111_326 (qO S111_326 44 12) 4).toInt := by rw [o469_]; exact congrArg Int32.toInt (q190_.2.kI (j := 4) (y177_.ref m_.p12 (y177_.2.1 _ finC_29).2.1) (by decide) (by decide))
                          have t471_ : (qI S41_468 (qO S41_468 44 12) 9).toInt = (qI S111_326 (qO S111_326 44 12) 9).toInt := by rw [o469_]; exact congrArg Int32.toInt (q190_.2.kI (j := 9) (y177_.ref m_.p12 (y177_.2.1 _ finC_29).2.1) (by decide) (by decide))
                          have t472_ : (qI S41_468 (qO S41_468 44 12) 2).toInt = (qI S111_326 (qO S111_326 44 12) 2).toInt := by rw [o469_]; exact congrArg Int32.toInt (q190_.2.kI (j := 2) (y177_.ref m_.p12 (y177_.2.1 _ finC_29).2.1) (by decide) (by decide))
                          have t473_ : (qN S41_468 (qO S41_468 (qO S41_468 44 12) 1) : Int) = (qN S111_326 (qO S111_326 (qO S111_326 44 12) 1) : Int) := by rw [o469_]; exact q190_.2.kL (j := 1) y177_ (y177_.ref m_.p12 (y177_.2.1 _ finC_29).2.1) (g.row (y177_.ref m_.p12 (y177_.2.1 _ finC_29).2.1)).1.2.1 (by decide) (by decide)
                          have t474_ : (qN S41_468 (qO S41_468 (qO S41_468 44 12) 8) : Int) = (qN S111_326 (qO S111_326 (qO S111_326 44 12) 8) : Int) := by rw [o469_]; exact q190_.2.kL (j := 8) y177_ (y177_.ref m_.p12 (y177_.2.1 _ finC_29).2.1) (g.row (y177_.ref m_.p12 (y177_.2.1 _ finC_29).2.1)).1.2.2.2.2.2.2 (by decide) (by decide)
                          have t475_ : (qN S41_468 (qO S41_468 (qO S41_468 44 12) 7) : Int) = (qN S111_326 (qO S111_326 (qO S111_326 44 12) 7) : Int) := by rw [o469_]; exact q190_.2.kL (j := 7) y177_ (y177_.ref m_.p12 (y177_.2.1 _ finC_29).2.1) (g.row (y177_.ref m_.p12 (y177_.2.1 _ finC_29).2.1)).1.2.2.2.2.2.1 (by decide) (by decide)
                          have t476_ : (qN S41_468 (qO S41_468 (qO S41_468 44 12) 0) : Int) = (qN S111_326 (qO S111_326 (qO S111_326 44 12) 0) : Int) := by rw [o469_]; exact q190_.2.kL (j := 0) y177_ (y177_.ref m_.p12 (y177_.2.1 _ finC_29).2.1) (g.row (y177_.ref m_.p12 (y177_.2.1 _ finC_29).2.1)).1.1 (by decide) (by decide)
                          have t477_ : (qN S41_468 (qO S41_468 (qO S41_468 44 12) 6) : Int) = (qN S111_326 (qO S111_326 (qO S111_326 44 12) 6) : Int) := by rw [o469_]; exact q190_.2.kL (j := 6) y177_ (y177_.ref m_.p12 (y177_.2.1 _ finC_29).2.1) (g.row (y177_.ref m_.p12 (y177_.2.1 _ finC_29).2.1)).1.2.2.2.2.1 (by decide) (by decide)
                          have t478_ : (qN S41_468 (qO S41_468 (qO S41_468 44 12) 3) : Int) = (qN S111_326 (qO S111_326 (qO S111_326 44 12) 3) : Int) := by rw [o469_]; exact q190_.2.kL (j := 3) y177_ (y177_.ref m_.p12 (y177_.2.1 _ finC_29).2.1) (g.row (y177_.ref m_.p12 (y177_.2.1 _ finC_29).2.1)).1.2.2.1 (by decide) (by decide)
                          have t479_ : (qN S41_468 (qO S41_468 (qO S41_468 44 12) 5) : Int) = (qN S111_326 (qO S111_326 (qO S111_326 44 12) 5) : Int) := by rw [o469_]; exact q190_.2.kL (j := 5) y177_ (y177_.ref m_.p12 (y177_.2.1 _ finC_29).2.1) (g.row (y177_.ref m_.p12 (y177_.2.1 _ finC_29).2.1)).1.2.2.2.1 (by decide) (by decide)
                          have t480_ : (qI S41_468 44 13).toInt = (qI S111_326 44 13).toInt := congrArg Int32.toInt (q190_.2.kI (j := 13) (y177_.2.1 _ finC_29).2.1 (by decide) (by decide))
                          have gO_ := g
                          have g : ShC B S41_468 := q190_.1.1
                          have m_ : McIk S41_468 := q190_.1.2.1
                          intro S44_481 eS44_481 y193_ y194_
                          have f482_ : cfr [] [(45, 13)] S41_468 S44_481 := by rw [eS44_481]; exact cfr.oI y193_ (by decide)
                          have o483_ : qO S44_481 44 12 = qO S41_468 44 12 := qO_eq (f482_.kO (y191_.2.1 _ finC_29).2.1 (by decide) (by decide))
                          have t484_ : (qI S44_481 (qO S44_481 44 12) 4).toInt = (qI S41_468 (qO S41_468 44 12) 4).toInt := by rw [o483_]; exact congrArg Int32.toInt (f482_.kI (j := 4) (y191_.ref m_.p12 (y191_.2.1 _ finC_29).2.1) (by decide) (by decide))
                          have t485_ : (qI S44_481 (qO S44_481 44 12) 9).toInt = (qI S41_468 (qO S41_468 44 12) 9).toInt := by rw [o483_]; exact congrArg Int32.toInt (f482_.kI (j := 9) (y191_.ref m_.p12 (y191_.2.1 _ finC_29).2.1) (by decide) (by decide))
                          have t486_ : (qI S44_481 (qO S44_481 44 12) 2).toInt = (qI S41_468 (qO S41_468 44 12) 2).toInt := by rw [o483_]; exact congrArg Int32.toInt (f482_.kI (j := 2) (y191_.ref m_.p12 (y191_.2.1 _ finC_29).2.1) (by decide) (by decide))
                          have t487_ : (qN S44_481 (qO S44_481 (qO S44_481 44 12) 1) : Int) = (qN S41_468 (qO S41_468 (qO S41_468 44 12) 1) : Int) := by rw [o483_]; exact f482_.kL (j := 1) y191_ (y191_.ref m_.p12 (y191_.2.1 _ finC_29).2.1) (g.row (y191_.ref m_.p12 (y191_.2.1 _ finC_29).2.1)).1.2.1 (by decide) (by decide)
                          have t488_ : (qN S44_481 (qO S44_481 (qO S44_481 44 12) 8) : Int) = (qN S41_468 (qO S41_468 (qO S41_468 44 12) 8) : Int) := by rw [o483_]; exact f482_.kL (j := 8) y191_ (y191_.ref m_.p12 (y191_.2.1 _ finC_29).2.1) (g.row (y191_.ref m_.p12 (y191_.2.1 _ finC_29).2.1)).1.2.2.2.2.2.2 (by decide) (by decide)
                          have t489_ : (qN S44_481 (qO S44_481 (qO S44_481 44 12) 7) : Int) = (qN S41_468 (qO S41_468 (qO S41_468 44 12) 7) : Int) := by rw [o483_]; exact f482_.kL (j := 7) y191_ (y191_.ref m_.p12 (y191_.2.1 _ finC_29).2.1) (g.row (y191_.ref m_.p12 (y191_.2.1 _ finC_29).2.1)).1.2.2.2.2.2.1 (by decide) (by decide)
                          have t490_ : (qN S44_481 (qO S44_481 (qO S44_481 44 12) 0) : Int) = (qN S41_468 (qO S41_468 (qO S41_468 44 12) 0) : Int) := by rw [o483_]; exact f482_.kL (j := 0) y191_ (y191_.ref m_.p12 (y191_.2.1 _ finC_29).2.1) (g.row (y191_.ref m_.p12 (y191_.2.1 _ finC_29).2.1)).1.1 (by decide) (by decide)
                          have t491_ : (qN S44_481 (qO S44_481 (qO S44_481 44 12) 6) : Int) = (qN S41_468 (qO S41_468 (qO S41_468 44 12) 6) : Int) := by rw [o483_]; exact f482_.kL (j := 6) y191_ (y191_.ref m_.p12 (y191_.2.1 _ finC_29).2.1) (g.row (y191_.ref m_.p12 (y191_.2.1 _ finC_29).2.1)).1.2.2.2.2.1 (by decide) (by decide)
                          have t492_ : (qN S44_481 (qO S44_481 (qO S44_481 44 12) 3) : Int) = (qN S41_468 (qO S41_468 (qO S41_468 44 12) 3) : Int) := by rw [o483_]; exact f482_.kL (j := 3) y191_ (y191_.ref m_.p12 (y191_.2.1 _ finC_29).2.1) (g.row (y191_.ref m_.p12 (y191_.2.1 _ finC_29).2.1)).1.2.2.1 (by decide) (by decide)
                          have t493_ : (qN S44_481 (qO S44_481 (qO S44_481 44 12) 5) : Int) = (qN S41_468 (qO S41_468 (qO S41_468 44 12) 5) : Int) := by rw [o483_]; exact f482_.kL (j := 5) y191_ (y191_.ref m_.p12 (y191_.2.1 _ finC_29).2.1) (g.row (y191_.ref m_.p12 (y191_.2.1 _ finC_29).2.1)).1.2.2.2.1 (by decide) (by decide)
                          have t494_ : (qI S44_481 44 19).toInt = (qI S41_468 44 19).toInt := congrArg Int32.toInt (f482_.kI (j := 19) (y191_.2.1 _ finC_29).2.1 (by decide) (by decide))
                          have t495_ : (qI S44_481 44 14).toInt = (qI S41_468 44 14).toInt := congrArg Int32.toInt (f482_.kI (j := 14) (y191_.2.1 _ finC_29).2.1 (by decide) (by decide))
                          have t496_ : (qI S44_481 44 13).toInt = ((qI S41_468 44 13) + (1 : Int32)).toInt := by rw [eS44_481, qI_wI, if_pos ⟨rfl, rfl⟩]
                          have gO_ := g
                          have g : ShC B S44_481 := ShC.ws y191_ g f482_ (by rw [eS44_481]; rfl) (by rw [eS44_481]; rfl) (by rw [eS44_481]; rfl) rfl rfl
                          have m_ : McIk S44_481 := McIk.frg y191_ gO_ m_ f482_ rfl rfl rfl
                          exact ⟨g, m_, trivial⟩
                  · refine ⟨_, frX5_leave y158_ (sgX5_leave y158_ g m_), ?_⟩
                    intro S48_497 q195_ y196_ y197_
                    have gO_ := g
                    have g : ShC B S48_497 := q195_.1.1
                    have m_ : McIk S48_497 := q195_.1.2.1
                    exact ⟨g, m_, trivial⟩
              · refine ⟨_, frX5_shuffle y117_ (sfX5_shuffle y117_ ), ?_⟩
                intro S53_498 q198_ y199_ y200_
                have o499_ : qO S53_498 44 12 = qO S111_326 44 12 := qO_eq (q198_.2.kO (y117_.2.1 _ finC_29).2.1 (by decide) (by decide))
                have t500_ : (qI S53_498 (qO S53_498 44 12) 4).toInt = (qI S111_326 (qO S111_326 44 12) 4).toInt := by rw [o499_]; exact congrArg Int32.toInt (q198_.2.kI (j := 4) (y117_.ref m_.p12 (y117_.2.1 _ finC_29).2.1) (by decide) (by decide))
                have t501_ : (qI S53_498 (qO S53_498 44 12) 9).toInt = (qI S111_326 (qO S111_326 44 12) 9).toInt := by rw [o499_]; exact congrArg Int32.toInt (q198_.2.kI (j := 9) (y117_.ref m_.p12 (y117_.2.1 _ finC_29).2.1) (by decide) (by decide))
                have t502_ : (qI S53_498 (qO S53_498 44 12) 2).toInt = (qI S111_326 (qO S111_326 44 12) 2).toInt := by rw [o499_]; exact congrArg Int32.toInt (q198_.2.kI (j := 2) (y117_.ref m_.p12 (y117_.2.1 _ finC_29).2.1) (by decide) (by decide))
                have t503_ : (qN S53_498 (qO S53_498 (qO S53_498 44 12) 1) : Int) = (qN S111_326 (qO S111_326 (qO S111_326 44 12) 1) : Int) := by rw [o499_]; exact q198_.2.kL (j := 1) y117_ (y117_.ref m_.p12 (y117_.2.1 _ finC_29).2.1) (g.row (y117_.ref m_.p12 (y117_.2.1 _ finC_29).2.1)).1.2.1 (by decide) (by decide)
                have t504_ : (qN S53_498 (qO S53_498 (qO S53_498 44 12) 8) : Int) = (qN S111_326 (qO S111_326 (qO S111_326 44 12) 8) : Int) := by rw [o499_]; exact q198_.2.kL (j := 8) y117_ (y117_.ref m_.p12 (y117_.2.1 _ finC_29).2.1) (g.row (y117_.ref m_.p12 (y117_.2.1 _ finC_29).2.1)).1.2.2.2.2.2.2 (by decide) (by decide)
                have t505_ : (qN S53_498 (qO S53_498 (qO S53_498 44 12) 7) : Int) = (qN S111_326 (qO S111_326 (qO S111_326 44 12) 7) : Int) := by rw [o499_]; exact q198_.2.kL (j := 7) y117_ (y117_.ref m_.p12 (y117_.2.1 _ finC_29).2.1) (g.row (y117_.ref m_.p12 (y117_.2.1 _ finC_29).2.1)).1.2.2.2.2.2.1 (by decide) (by decide)
                have t506_ : (qN S53_498 (qO S53_498 (qO S53_498 44 12) 0) : Int) = (qN S111_326 (qO S111_326 (qO S111_326 44 12) 0) : Int) := by rw [o499_]; exact q198_.2.kL (j := 0) y117_ (y117_.ref m_.p12 (y117_.2.1 _ finC_29).2.1) (g.row (y117_.ref m_.p12 (y117_.2.1 _ finC_29).2.1)).1.1 (by decide) (by decide)
                have t507_ : (qN S53_498 (qO S53_498 (qO S53_498 44 12) 6) : Int) = (qN S111_326 (qO S111_326 (qO S111_326 44 12) 6) : Int) := by rw [o499_]; exact q198_.2.kL (j := 6) y117_ (y117_.ref m_.p12 (y117_.2.1 _ finC_29).2.1) (g.row (y117_.ref m_.p12 (y117_.2.1 _ finC_29).2.1)).1.2.2.2.2.1 (by decide) (by decide)
                have t508_ : (qN S53_498 (qO S53_498 (qO S53_498 44 12) 3) : Int) = (qN S111_326 (qO S111_326 (qO S111_326 44 12) 3) : Int) := by rw [o499_]; exact q198_.2.kL (j := 3) y117_ (y117_.ref m_.p12 (y117_.2.1 _ finC_29).2.1) (g.row (y117_.ref m_.p12 (y117_.2.1 _ finC_29).2.1)).1.2.2.1 (by decide) (by decide)
                have t509_ : (qN S53_498 (qO S53_498 (qO S53_498 44 12) 5) : Int) = (qN S111_326 (qO S111_326 (qO S111_326 44 12) 5) : Int) := by rw [o499_]; exact q198_.2.kL (j := 5) y117_ (y117_.ref m_.p12 (y117_.2.1 _ finC_29).2.1) (g.row (y117_.ref m_.p12 (y117_.2.1 _ finC_29).2.1)).1.2.2.2.1 (by decide) (by decide)
                have t510_ : (qI S53_498 44 13).toInt = (qI S111_326 44 13).toInt := congrArg Int32.toInt (q198_.2.kI (j := 13) (y117_.2.1 _ finC_29).2.1 (by decide) (by decide))
                have gO_ := g
                have g : ShC B S53_498 := ShC.ca y117_ g q198_.2 y200_ y199_ rfl rfl
                have m_ : McIk S53_498 := McIk.frg y117_ gO_ m_ q198_.2 rfl rfl rfl
                intro S56_511 eS56_511 y201_ y202_
                have f512_ : cfr [] [(45, 13)] S53_498 S56_511 := by rw [eS56_511]; exact cfr.oI y201_ (by decide)
                have o513_ : qO S56_511 44 12 = qO S53_498 44 12 := qO_eq (f512_.kO (y199_.2.1 _ finC_29).2.1 (by decide) (by decide))
                have t514_ : (qI S56_511 (qO S56_511 44 12) 4).toInt = (qI S53_498 (qO S53_498 44 12) 4).toInt := by rw [o513_]; exact congrArg Int32.toInt (f512_.kI (j := 4) (y199_.ref m_.p12 (y199_.2.1 _ finC_29).2.1) (by decide) (by decide))
                have t515_ : (qI S56_511 (qO S56_511 44 12) 9).toInt = (qI S53_498 (qO S53_498 44 12) 9).toInt := by rw [o513_]; exact congrArg Int32.toInt (f512_.kI (j := 9) (y199_.ref m_.p12 (y199_.2.1 _ finC_29).2.1) (by decide) (by decide))
                have t516_ : (qI S56_511 (qO S56_511 44 12) 2).toInt = (qI S53_498 (qO S53_498 44 12) 2).toInt := by rw [o513_]; exact congrArg Int32.toInt (f512_.kI (j := 2) (y199_.ref m_.p12 (y199_.2.1 _ finC_29).2.1) (by decide) (by decide))
                have t517_ : (qN S56_511 (qO S56_511 (qO S56_511 44 12) 1) : Int) = (qN S53_498 (qO S53_498 (qO S53_498 44 12) 1) : Int) := by rw [o513_]; exact f512_.kL (j := 1) y199_ (y199_.ref m_.p12 (y199_.2.1 _ finC_29).2.1) (g.row (y199_.ref m_.p12 (y199_.2.1 _ finC_29).2.1)).1.2.1 (by decide) (by decide)
                have t518_ : (qN S56_511 (qO S56_511 (qO S56_511 44 12) 8) : Int) = (qN S53_498 (qO S53_498 (qO S53_498 44 12) 8) : Int) := by rw [o513_]; exact f512_.kL (j := 8) y199_ (y199_.ref m_.p12 (y199_.2.1 _ finC_29).2.1) (g.row (y199_.ref m_.p12 (y199_.2.1 _ finC_29).2.1)).1.2.2.2.2.2.2 (by decide) (by decide)
                have t519_ : (qN S56_511 (qO S56_511 (qO S56_511 44 12) 7) : Int) = (qN S53_498 (qO S53_498 (qO S53_498 44 12) 7) : Int) := by rw [o513_]; exact f512_.kL (j := 7) y199_ (y199_.ref m_.p12 (y199_.2.1 _ finC_29).2.1) (g.row (y199_.ref m_.p12 (y199_.2.1 _ finC_29).2.1)).1.2.2.2.2.2.1 (by decide) (by decide)
                have t520_ : (qN S56_511 (qO S56_511 (qO S56_511 44 12) 0) : Int) = (qN S53_498 (qO S53_498 (qO S53_498 44 12) 0) : Int) := by rw [o513_]; exact f512_.kL (j := 0) y199_ (y199_.ref m_.p12 (y199_.2.1 _ finC_29).2.1) (g.row (y199_.ref m_.p12 (y199_.2.1 _ finC_29).2.1)).1.1 (by decide) (by decide)
                have t521_ : (qN S56_511 (qO S56_511 (qO S56_511 44 12) 6) : Int) = (qN S53_498 (qO S53_498 (qO S53_498 44 12) 6) : Int) := by rw [o513_]; exact f512_.kL (j := 6) y199_ (y199_.ref m_.p12 (y199_.2.1 _ finC_29).2.1) (g.row (y199_.ref m_.p12 (y199_.2.1 _ finC_29).2.1)).1.2.2.2.2.1 (by decide) (by decide)
                have t522_ : (qN S56_511 (qO S56_511 (qO S56_511 44 12) 3) : Int) = (qN S53_498 (qO S53_498 (qO S53_498 44 12) 3) : Int) := by rw [o513_]; exact f512_.kL (j := 3) y199_ (y199_.ref m_.p12 (y199_.2.1 _ finC_29).2.1) (g.row (y199_.ref m_.p12 (y199_.2.1 _ finC_29).2.1)).1.2.2.1 (by decide) (by decide)
                have t523_ : (qN S56_511 (qO S56_511 (qO S56_511 44 12) 5) : Int) = (qN S53_498 (qO S53_498 (qO S53_498 44 12) 5) : Int) := by rw [o513_]; exact f512_.kL (j := 5) y199_ (y199_.ref m_.p12 (y199_.2.1 _ finC_29).2.1) (g.row (y199_.ref m_.p12 (y199_.2.1 _ finC_29).2.1)).1.2.2.2.1 (by decide) (by decide)
                have t524_ : (qI S56_511 44 19).toInt = (qI S53_498 44 19).toInt := congrArg Int32.toInt (f512_.kI (j := 19) (y199_.2.1 _ finC_29).2.1 (by decide) (by decide))
                have t525_ : (qI S56_511 44 14).toInt = (qI S53_498 44 14).toInt := congrArg Int32.toInt (f512_.kI (j := 14) (y199_.2.1 _ finC_29).2.1 (by decide) (by decide))
                have t526_ : (qI S56_511 44 13).toInt = ((qI S53_498 44 13) + (1 : Int32)).toInt := by rw [eS56_511, qI_wI, if_pos ⟨rfl, rfl⟩]
                have gO_ := g
                have g : ShC B S56_511 := ShC.ws y199_ g f512_ (by rw [eS56_511]; rfl) (by rw [eS56_511]; rfl) (by rw [eS56_511]; rfl) rfl rfl
                have m_ : McIk S56_511 := McIk.frg y199_ gO_ m_ f512_ rfl rfl rfl
                exact ⟨g, m_, trivial⟩
          · refine ⟨?_, ?_⟩
            · exact m_.p12
            refine ⟨_, frX5_pop y117_ (sfX5_pop y117_ ), ?_⟩
            intro r60_527 S61_527 q203_ y204_ y205_
            have o528_ : qO S61_527 44 12 = qO S111_326 44 12 := qO_eq (q203_.2.kO (y117_.2.1 _ finC_29).2.1 (by decide) (by decide))
            have t529_ : (qI S61_527 (qO S61_527 44 12) 4).toInt = (qI S111_326 (qO S111_326 44 12) 4).toInt := by rw [o528_]; exact congrArg Int32.toInt (q203_.2.kI (j := 4) (y117_.ref m_.p12 (y117_.2.1 _ finC_29).2.1) (by decide) (by decide))
            have t530_ : (qI S61_527 (qO S61_527 44 12) 9).toInt = (qI S111_326 (qO S111_326 44 12) 9).toInt := by rw [o528_]; exact congrArg Int32.toInt (q203_.2.kI (j := 9) (y117_.ref m_.p12 (y117_.2.1 _ finC_29).2.1) (by decide) (by decide))
            have t531_ : (qI S61_527 (qO S61_527 44 12) 2).toInt = (qI S111_326 (qO S111_326 44 12) 2).toInt := by rw [o528_]; exact congrArg Int32.toInt (q203_.2.kI (j := 2) (y117_.ref m_.p12 (y117_.2.1 _ finC_29).2.1) (by decide) (by decide))
            have t532_ : (qN S61_527 (qO S61_527 (qO S61_527 44 12) 1) : Int) = (qN S111_326 (qO S111_326 (qO S111_326 44 12) 1) : Int) := by rw [o528_]; exact q203_.2.kL (j := 1) y117_ (y117_.ref m_.p12 (y117_.2.1 _ finC_29).2.1) (g.row (y117_.ref m_.p12 (y117_.2.1 _ finC_29).2.1)).1.2.1 (by decide) (by decide)
            have t533_ : (qN S61_527 (qO S61_527 (qO S61_527 44 12) 8) : Int) = (qN S111_326 (qO S111_326 (qO S111_326 44 12) 8) : Int) := by rw [o528_]; exact q203_.2.kL (j := 8) y117_ (y117_.ref m_.p12 (y117_.2.1 _ finC_29).2.1) (g.row (y117_.ref m_.p12 (y117_.2.1 _ finC_29).2.1)).1.2.2.2.2.2.2 (by decide) (by decide)
            have t534_ : (qN S61_527 (qO S61_527 (qO S61_527 44 12) 7) : Int) = (qN S111_326 (qO S111_326 (qO S111_326 44 12) 7) : Int) := by rw [o528_]; exact q203_.2.kL (j := 7) y117_ (y117_.ref m_.p12 (y117_.2.1 _ finC_29).2.1) (g.row (y117_.ref m_.p12 (y117_.2.1 _ finC_29).2.1)).1.2.2.2.2.2.1 (by decide) (by decide)
            have t535_ : (qN S61_527 (qO S61_527 (qO S61_527 44 12) 0) : Int) = (qN S111_326 (qO S111_326 (qO S111_326 44 12) 0) : Int) := by rw [o528_]; exact q203_.2.kL (j := 0) y117_ (y117_.ref m_.p12 (y117_.2.1 _ finC_29).2.1) (g.row (y117_.ref m_.p12 (y117_.2.1 _ finC_29).2.1)).1.1 (by decide) (by decide)
            have t536_ : (qN S61_527 (qO S61_527 (qO S61_527 44 12) 6) : Int) = (qN S111_326 (qO S111_326 (qO S111_326 44 12) 6) : Int) := by rw [o528_]; exact q203_.2.kL (j := 6) y117_ (y117_.ref m_.p12 (y117_.2.1 _ finC_29).2.1) (g.row (y117_.ref m_.p12 (y117_.2.1 _ finC_29).2.1)).1.2.2.2.2.1 (by decide) (by decide)
            have t537_ : (qN S61_527 (qO S61_527 (qO S61_527 44 12) 3) : Int) = (qN S111_326 (qO S111_326 (qO S111_326 44 12) 3) : Int) := by rw [o528_]; exact q203_.2.kL (j := 3) y117_ (y117_.ref m_.p12 (y117_.2.1 _ finC_29).2.1) (g.row (y117_.ref m_.p12 (y117_.2.1 _ finC_29).2.1)).1.2.2.1 (by decide) (by decide)
            have t538_ : (qN S61_527 (qO S61_527 (qO S61_527 44 12) 5) : Int) = (qN S111_326 (qO S111_326 (qO S111_326 44 12) 5) : Int) := by rw [o528_]; exact q203_.2.kL (j := 5) y117_ (y117_.ref m_.p12 (y117_.2.1 _ finC_29).2.1) (g.row (y117_.ref m_.p12 (y117_.2.1 _ finC_29).2.1)).1.2.2.2.1 (by decide) (by decide)
            have t539_ : (qI S61_527 44 13).toInt = (qI S111_326 44 13).toInt := congrArg Int32.toInt (q203_.2.kI (j := 13) (y117_.2.1 _ finC_29).2.1 (by decide) (by decide))
            have gO_ := g
            have g : ShC B S61_527 := ShC.ca y117_ g q203_.2 y205_ y204_ rfl rfl
            have m_ : McIk S61_527 := McIk.frg y117_ gO_ m_ q203_.2 rfl rfl rfl
            refine ⟨_, frX5_switchChoice y204_ (sgX5_switchChoice y204_ g m_), ?_⟩
            intro r64_540 S65_540 q206_ y207_ y208_
            have o541_ : qO S65_540 44 12 = qO S61_527 44 12 := qO_eq (q206_.2.kO (y204_.2.1 _ finC_29).2.1 (by decide) (by decide))
            have t542_ : (qI S65_540 (qO S65_540 44 12) 4).toInt = (qI S61_527 (qO S61_527 44 12) 4).toInt := by rw [o541_]; exact congrArg Int32.toInt (q206_.2.kI (j := 4) (y204_.ref m_.p12 (y204_.2.1 _ finC_29).2.1) (by decide) (by decide))
            have t543_ : (qI S65_540 (qO S65_540 44 12) 9).toInt = (qI S61_527 (qO S61_527 44 12) 9).toInt := by rw [o541_]; exact congrArg Int32.toInt (q206_.2.kI (j := 9) (y204_.ref m_.p12 (y204_.2.1 _ finC_29).2.1) (by decide) (by decide))
            have t544_ : (qI S65_540 (qO S65_540 44 12) 2).toInt = (qI S61_527 (qO S61_527 44 12) 2).toInt := by rw [o541_]; exact congrArg Int32.toInt (q206_.2.kI (j := 2) (y204_.ref m_.p12 (y204_.2.1 _ finC_29).2.1) (by decide) (by decide))
            have t545_ : (qN S65_540 (qO S65_540 (qO S65_540 44 12) 1) : Int) = (qN S61_527 (qO S61_527 (qO S61_527 44 12) 1) : Int) := by rw [o541_]; exact q206_.2.kL (j := 1) y204_ (y204_.ref m_.p12 (y204_.2.1 _ finC_29).2.1) (g.row (y204_.ref m_.p12 (y204_.2.1 _ finC_29).2.1)).1.2.1 (by decide) (by decide)
            have t546_ : (qN S65_540 (qO S65_540 (qO S65_540 44 12) 8) : Int) = (qN S61_527 (qO S61_527 (qO S61_527 44 12) 8) : Int) := by rw [o541_]; exact q206_.2.kL (j := 8) y204_ (y204_.ref m_.p12 (y204_.2.1 _ finC_29).2.1) (g.row (y204_.ref m_.p12 (y204_.2.1 _ finC_29).2.1)).1.2.2.2.2.2.2 (by decide) (by decide)
            have t547_ : (qN S65_540 (qO S65_540 (qO S65_540 44 12) 7) : Int) = (qN S61_527 (qO S61_527 (qO S61_527 44 12) 7) : Int) := by rw [o541_]; exact q206_.2.kL (j := 7) y204_ (y204_.ref m_.p12 (y204_.2.1 _ finC_29).2.1) (g.row (y204_.ref m_.p12 (y204_.2.1 _ finC_29).2.1)).1.2.2.2.2.2.1 (by decide) (by decide)
            have t548_ : (qN S65_540 (qO S65_540 (qO S65_540 44 12) 0) : Int) = (qN S61_527 (qO S61_527 (qO S61_527 44 12) 0) : Int) := by rw [o541_]; exact q206_.2.kL (j := 0) y204_ (y204_.ref m_.p12 (y204_.2.1 _ finC_29).2.1) (g.row (y204_.ref m_.p12 (y204_.2.1 _ finC_29).2.1)).1.1 (by decide) (by decide)
            have t549_ : (qN S65_540 (qO S65_540 (qO S65_540 44 12) 6) : Int) = (qN S61_527 (qO S61_527 (qO S61_527 44 12) 6) : Int) := by rw [o541_]; exact q206_.2.kL (j := 6) y204_ (y204_.ref m_.p12 (y204_.2.1 _ finC_29).2.1) (g.row (y204_.ref m_.p12 (y204_.2.1 _ finC_29).2.1)).1.2.2.2.2.1 (by decide) (by decide)
            have t550_ : (qN S65_540 (qO S65_540 (qO S65_540 44 12) 3) : Int) = (qN S61_527 (qO S61_527 (qO S61_527 44 12) 3) : Int) := by rw [o541_]; exact q206_.2.kL (j := 3) y204_ (y204_.ref m_.p12 (y204_.2.1 _ finC_29).2.1) (g.row (y204_.ref m_.p12 (y204_.2.1 _ finC_29).2.1)).1.2.2.1 (by decide) (by decide)
            have t551_ : (qN S65_540 (qO S65_540 (qO S65_540 44 12) 5) : Int) = (qN S61_527 (qO S61_527 (qO S61_527 44 12) 5) : Int) := by rw [o541_]; exact q206_.2.kL (j := 5) y204_ (y204_.ref m_.p12 (y204_.2.1 _ finC_29).2.1) (g.row (y204_.ref m_.p12 (y204_.2.1 _ finC_29).2.1)).1.2.2.2.1 (by decide) (by decide)
            have t552_ : (qI S65_540 44 13).toInt = (qI S61_527 44 13).toInt := congrArg Int32.toInt (q206_.2.kI (j := 13) (y204_.2.1 _ finC_29).2.1 (by decide) (by decide))
            have t553_ : (qI S65_540 44 19).toInt = (qI S61_527 44 19).toInt := congrArg Int32.toInt (q206_.2.kI (j := 19) (y204_.2.1 _ finC_29).2.1 (by decide) (by decide))
            have t554_ : (qI S65_540 44 14).toInt = (qI S61_527 44 14).toInt := congrArg Int32.toInt (q206_.2.kI (j := 14) (y204_.2.1 _ finC_29).2.1 (by decide) (by decide))
            have gO_ := g
            have g : ShC B S65_540 := q206_.1.1
            have m_ : McIk S65_540 := q206_.1.2.1
            refine ⟨?_, ?_⟩
            · exact (dd_X8_targetAt y207_ g (by rw [← (o541_.trans o528_)]; exact (y207_.ref m_.p12 (y207_.2.1 _ finC_29).2.1)))
            intro a70_555 ea70_555 
            have ga70_555 := congrArg Int32.toInt ea70_555
            intro S71_556 eS71_556 y209_ y210_
            have f557_ : cfr [] [(45, 13)] S65_540 S71_556 := by rw [eS71_556]; exact cfr.oI y209_ (by decide)
            have o558_ : qO S71_556 44 12 = qO S65_540 44 12 := qO_eq (f557_.kO (y207_.2.1 _ finC_29).2.1 (by decide) (by decide))
            have t559_ : (qI S71_556 (qO S71_556 44 12) 4).toInt = (qI S65_540 (qO S65_540 44 12) 4).toInt := by rw [o558_]; exact congrArg Int32.toInt (f557_.kI (j := 4) (y207_.ref m_.p12 (y207_.2.1 _ finC_29).2.1) (by decide) (by decide))
            have t560_ : (qI S71_556 (qO S71_556 44 12) 9).toInt = (qI S65_540 (qO S65_540 44 12) 9).toInt := by rw [o558_]; exact congrArg Int32.toInt (f557_.kI (j := 9) (y207_.ref m_.p12 (y207_.2.1 _ finC_29).2.1) (by decide) (by decide))
            have t561_ : (qI S71_556 (qO S71_556 44 12) 2).toInt = (qI S65_540 (qO S65_540 44 12) 2).toInt := by rw [o558_]; exact congrArg Int32.toInt (f557_.kI (j := 2) (y207_.ref m_.p12 (y207_.2.1 _ finC_29).2.1) (by decide) (by decide))
            have t562_ : (qN S71_556 (qO S71_556 (qO S71_556 44 12) 1) : Int) = (qN S65_540 (qO S65_540 (qO S65_540 44 12) 1) : Int) := by rw [o558_]; exact f557_.kL (j := 1) y207_ (y207_.ref m_.p12 (y207_.2.1 _ finC_29).2.1) (g.row (y207_.ref m_.p12 (y207_.2.1 _ finC_29).2.1)).1.2.1 (by decide) (by decide)
            have t563_ : (qN S71_556 (qO S71_556 (qO S71_556 44 12) 8) : Int) = (qN S65_540 (qO S65_540 (qO S65_540 44 12) 8) : Int) := by rw [o558_]; exact f557_.kL (j := 8) y207_ (y207_.ref m_.p12 (y207_.2.1 _ finC_29).2.1) (g.row (y207_.ref m_.p12 (y207_.2.1 _ finC_29).2.1)).1.2.2.2.2.2.2 (by decide) (by decide)
            have t564_ : (qN S71_556 (qO S71_556 (qO S71_556 44 12) 7) : Int) = (qN S65_540 (qO S65_540 (qO S65_540 44 12) 7) : Int) := by rw [o558_]; exact f557_.kL (j := 7) y207_ (y207_.ref m_.p12 (y207_.2.1 _ finC_29).2.1) (g.row (y207_.ref m_.p12 (y207_.2.1 _ finC_29).2.1)).1.2.2.2.2.2.1 (by decide) (by decide)
            have t565_ : (qN S71_556 (qO S71_556 (qO S71_556 44 12) 0) : Int) = (qN S65_540 (qO S65_540 (qO S65_540 44 12) 0) : Int) := by rw [o558_]; exact f557_.kL (j := 0) y207_ (y207_.ref m_.p12 (y207_.2.1 _ finC_29).2.1) (g.row (y207_.ref m_.p12 (y207_.2.1 _ finC_29).2.1)).1.1 (by decide) (by decide)
            have t566_ : (qN S71_556 (qO S71_556 (qO S71_556 44 12) 6) : Int) = (qN S65_540 (qO S65_540 (qO S65_540 44 12) 6) : Int) := by rw [o558_]; exact f557_.kL (j := 6) y207_ (y207_.ref m_.p12 (y207_.2.1 _ finC_29).2.1) (g.row (y207_.ref m_.p12 (y207_.2.1 _ finC_29).2.1)).1.2.2.2.2.1 (by decide) (by decide)
            have t567_ : (qN S71_556 (qO S71_556 (qO S71_556 44 12) 3) : Int) = (qN S65_540 (qO S65_540 (qO S65_540 44 12) 3) : Int) := by rw [o558_]; exact f557_.kL (j := 3) y207_ (y207_.ref m_.p12 (y207_.2.1 _ finC_29).2.1) (g.row (y207_.ref m_.p12 (y207_.2.1 _ finC_29).2.1)).1.2.2.1 (by decide) (by decide)
            have t568_ : (qN S71_556 (qO S71_556 (qO S71_556 44 12) 5) : Int) = (qN S65_540 (qO S65_540 (qO S65_540 44 12) 5) : Int) := by rw [o558_]; exact f557_.kL (j := 5) y207_ (y207_.ref m_.p12 (y207_.2.1 _ finC_29).2.1) (g.row (y207_.ref m_.p12 (y207_.2.1 _ finC_29).2.1)).1.2.2.2.1 (by decide) (by decide)
            have t569_ : (qI S71_556 44 19).toInt = (qI S65_540 44 19).toInt := congrArg Int32.toInt (f557_.kI (j := 19) (y207_.2.1 _ finC_29).2.1 (by decide) (by decide))
            have t570_ : (qI S71_556 44 14).toInt = (qI S65_540 44 14).toInt := congrArg Int32.toInt (f557_.kI (j := 14) (y207_.2.1 _ finC_29).2.1 (by decide) (by decide))
            have t571_ : (qI S71_556 44 13).toInt = a70_555.toInt := by rw [eS71_556, qI_wI, if_pos ⟨rfl, rfl⟩]
            have gO_ := g
            have g : ShC B S71_556 := ShC.ws y207_ g f557_ (by rw [eS71_556]; rfl) (by rw [eS71_556]; rfl) (by rw [eS71_556]; rfl) rfl rfl
            have m_ : McIk S71_556 := McIk.frg y207_ gO_ m_ f557_ rfl rfl rfl
            exact ⟨g, m_, trivial⟩
        · refine ⟨_, frX5_isJumpTaken y117_ (sfX5_isJumpTaken y117_ ), ?_⟩
          intro r73_572 S74_572 q211_ y212_ y213_
          have o573_ : qO S74_572 44 12 = qO S111_326 44 12 := qO_eq (q211_.2.kO (y117_.2.1 _ finC_29).2.1 (by decide) (by decide))
          have t574_ : (qI S74_572 (qO S74_572 44 12) 4).toInt = (qI S111_326 (qO S111_326 44 12) 4).toInt := by rw [o573_]; exact congrArg Int32.toInt (q211_.2.kI (j := 4) (y117_.ref m_.p12 (y117_.2.1 _ finC_29).2.1) (by decide) (by decide))
          have t575_ : (qI S74_572 (qO S74_572 44 12) 9).toInt = (qI S111_326 (qO S111_326 44 12) 9).toInt := by rw [o573_]; exact congrArg Int32.toInt (q211_.2.kI (j := 9) (y117_.ref m_.p12 (y117_.2.1 _ finC_29).2.1) (by decide) (by decide))
          have t576_ : (qI S74_572 (qO S74_572 44 12) 2).toInt = (qI S111_326 (qO S111_326 44 12) 2).toInt := by rw [o573_]; exact congrArg Int32.toInt (q211_.2.kI (j := 2) (y117_.ref m_.p12 (y117_.2.1 _ finC_29).2.1) (by decide) (by decide))
          have t577_ : (qN S74_572 (qO S74_572 (qO S74_572 44 12) 1) : Int) = (qN S111_326 (qO S111_326 (qO S111_326 44 12) 1) : Int) := by rw [o573_]; exact q211_.2.kL (j := 1) y117_ (y117_.ref m_.p12 (y117_.2.1 _ finC_29).2.1) (g.row (y117_.ref m_.p12 (y117_.2.1 _ finC_29).2.1)).1.2.1 (by decide) (by decide)
          have t578_ : (qN S74_572 (qO S74_572 (qO S74_572 44 12) 8) : Int) = (qN S111_326 (qO S111_326 (qO S111_326 44 12) 8) : Int) := by rw [o573_]; exact q211_.2.kL (j := 8) y117_ (y117_.ref m_.p12 (y117_.2.1 _ finC_29).2.1) (g.row (y117_.ref m_.p12 (y117_.2.1 _ finC_29).2.1)).1.2.2.2.2.2.2 (by decide) (by decide)
          have t579_ : (qN S74_572 (qO S74_572 (qO S74_572 44 12) 7) : Int) = (qN S111_326 (qO S111_326 (qO S111_326 44 12) 7) : Int) := by rw [o573_]; exact q211_.2.kL (j := 7) y117_ (y117_.ref m_.p12 (y117_.2.1 _ finC_29).2.1) (g.row (y117_.ref m_.p12 (y117_.2.1 _ finC_29).2.1)).1.2.2.2.2.2.1 (by decide) (by decide)
          have t580_ : (qN S74_572 (qO S74_572 (qO S74_572 44 12) 0) : Int) = (qN S111_326 (qO S111_326 (qO S111_326 44 12) 0) : Int) := by rw [o573_]; exact q211_.2.kL (j := 0) y117_ (y117_.ref m_.p12 (y117_.2.1 _ finC_29).2.1) (g.row (y117_.ref m_.p12 (y117_.2.1 _ finC_29).2.1)).1.1 (by decide) (by decide)
          have t581_ : (qN S74_572 (qO S74_572 (qO S74_572 44 12) 6) : Int) = (qN S111_326 (qO S111_326 (qO S111_326 44 12) 6) : Int) := by rw [o573_]; exact q211_.2.kL (j := 6) y117_ (y117_.ref m_.p12 (y117_.2.1 _ finC_29).2.1) (g.row (y117_.ref m_.p12 (y117_.2.1 _ finC_29).2.1)).1.2.2.2.2.1 (by decide) (by decide)
          have t582_ : (qN S74_572 (qO S74_572 (qO S74_572 44 12) 3) : Int) = (qN S111_326 (qO S111_326 (qO S111_326 44 12) 3) : Int) := by rw [o573_]; exact q211_.2.kL (j := 3) y117_ (y117_.ref m_.p12 (y117_.2.1 _ finC_29).2.1) (g.row (y117_.ref m_.p12 (y117_.2.1 _ finC_29).2.1)).1.2.2.1 (by decide) (by decide)
          have t583_ : (qN S74_572 (qO S74_572 (qO S74_572 44 12) 5) : Int) = (qN S111_326 (qO S111_326 (qO S111_326 44 12) 5) : Int) := by rw [o573_]; exact q211_.2.kL (j := 5) y117_ (y117_.ref m_.p12 (y117_.2.1 _ finC_29).2.1) (g.row (y117_.ref m_.p12 (y117_.2.1 _ finC_29).2.1)).1.2.2.2.1 (by decide) (by decide)
          have t584_ : (qI S74_572 44 13).toInt = (qI S111_326 44 13).toInt := congrArg Int32.toInt (q211_.2.kI (j := 13) (y117_.2.1 _ finC_29).2.1 (by decide) (by decide))
          have gO_ := g
          have g : ShC B S74_572 := ShC.ca y117_ g q211_.2 y213_ y212_ rfl rfl
          have m_ : McIk S74_572 := McIk.frg y117_ gO_ m_ q211_.2 rfl rfl rfl
          refine ⟨fun c585_ => ?_, fun c585_ => ?_⟩
          · unfold w_X5_step_J132
            intro y214_
            intro S76_586 eS76_586 y215_ y216_
            have f587_ : cfr [] [(45, 13)] S74_572 S76_586 := by rw [eS76_586]; exact cfr.oI y215_ (by decide)
            have o588_ : qO S76_586 44 12 = qO S74_572 44 12 := qO_eq (f587_.kO (y214_.2.1 _ finC_29).2.1 (by decide) (by decide))
            have t589_ : (qI S76_586 (qO S76_586 44 12) 4).toInt = (qI S74_572 (qO S74_572 44 12) 4).toInt := by rw [o588_]; exact congrArg Int32.toInt (f587_.kI (j := 4) (y214_.ref m_.p12 (y214_.2.1 _ finC_29).2.1) (by decide) (by decide))
            have t590_ : (qI S76_586 (qO S76_586 44 12) 9).toInt = (qI S74_572 (qO S74_572 44 12) 9).toInt := by rw [o588_]; exact congrArg Int32.toInt (f587_.kI (j := 9) (y214_.ref m_.p12 (y214_.2.1 _ finC_29).2.1) (by decide) (by decide))
            have t591_ : (qI S76_586 (qO S76_586 44 12) 2).toInt = (qI S74_572 (qO S74_572 44 12) 2).toInt := by rw [o588_]; exact congrArg Int32.toInt (f587_.kI (j := 2) (y214_.ref m_.p12 (y214_.2.1 _ finC_29).2.1) (by decide) (by decide))
            have t592_ : (qN S76_586 (qO S76_586 (qO S76_586 44 12) 1) : Int) = (qN S74_572 (qO S74_572 (qO S74_572 44 12) 1) : Int) := by rw [o588_]; exact f587_.kL (j := 1) y214_ (y214_.ref m_.p12 (y214_.2.1 _ finC_29).2.1) (g.row (y214_.ref m_.p12 (y214_.2.1 _ finC_29).2.1)).1.2.1 (by decide) (by decide)
            have t593_ : (qN S76_586 (qO S76_586 (qO S76_586 44 12) 8) : Int) = (qN S74_572 (qO S74_572 (qO S74_572 44 12) 8) : Int) := by rw [o588_]; exact f587_.kL (j := 8) y214_ (y214_.ref m_.p12 (y214_.2.1 _ finC_29).2.1) (g.row (y214_.ref m_.p12 (y214_.2.1 _ finC_29).2.1)).1.2.2.2.2.2.2 (by decide) (by decide)
            have t594_ : (qN S76_586 (qO S76_586 (qO S76_586 44 12) 7) : Int) = (qN S74_572 (qO S74_572 (qO S74_572 44 12) 7) : Int) := by rw [o588_]; exact f587_.kL (j := 7) y214_ (y214_.ref m_.p12 (y214_.2.1 _ finC_29).2.1) (g.row (y214_.ref m_.p12 (y214_.2.1 _ finC_29).2.1)).1.2.2.2.2.2.1 (by decide) (by decide)
            have t595_ : (qN S76_586 (qO S76_586 (qO S76_586 44 12) 0) : Int) = (qN S74_572 (qO S74_572 (qO S74_572 44 12) 0) : Int) := by rw [o588_]; exact f587_.kL (j := 0) y214_ (y214_.ref m_.p12 (y214_.2.1 _ finC_29).2.1) (g.row (y214_.ref m_.p12 (y214_.2.1 _ finC_29).2.1)).1.1 (by decide) (by decide)
            have t596_ : (qN S76_586 (qO S76_586 (qO S76_586 44 12) 6) : Int) = (qN S74_572 (qO S74_572 (qO S74_572 44 12) 6) : Int) := by rw [o588_]; exact f587_.kL (j := 6) y214_ (y214_.ref m_.p12 (y214_.2.1 _ finC_29).2.1) (g.row (y214_.ref m_.p12 (y214_.2.1 _ finC_29).2.1)).1.2.2.2.2.1 (by decide) (by decide)
            have t597_ : (qN S76_586 (qO S76_586 (qO S76_586 44 12) 3) : Int) = (qN S74_572 (qO S74_572 (qO S74_572 44 12) 3) : Int) := by rw [o588_]; exact f587_.kL (j := 3) y214_ (y214_.ref m_.p12 (y214_.2.1 _ finC_29).2.1) (g.row (y214_.ref m_.p12 (y214_.2.1 _ finC_29).2.1)).1.2.2.1 (by decide) (by decide)
            have t598_ : (qN S76_586 (qO S76_586 (qO S76_586 44 12) 5) : Int) = (qN S74_572 (qO S74_572 (qO S74_572 44 12) 5) : Int) := by rw [o588_]; exact f587_.kL (j := 5) y214_ (y214_.ref m_.p12 (y214_.2.1 _ finC_29).2.1) (g.row (y214_.ref m_.p12 (y214_.2.1 _ finC_29).2.1)).1.2.2.2.1 (by decide) (by decide)
            have t599_ : (qI S76_586 44 19).toInt = (qI S74_572 44 19).toInt := congrArg Int32.toInt (f587_.kI (j := 19) (y214_.2.1 _ finC_29).2.1 (by decide) (by decide))
            have t600_ : (qI S76_586 44 14).toInt = (qI S74_572 44 14).toInt := congrArg Int32.toInt (f587_.kI (j := 14) (y214_.2.1 _ finC_29).2.1 (by decide) (by decide))
            have t601_ : (qI S76_586 44 13).toInt = ((qI S74_572 44 13) + (1 : Int32)).toInt := by rw [eS76_586, qI_wI, if_pos ⟨rfl, rfl⟩]
            have gO_ := g
            have g : ShC B S76_586 := ShC.ws y214_ g f587_ (by rw [eS76_586]; rfl) (by rw [eS76_586]; rfl) (by rw [eS76_586]; rfl) rfl rfl
            have m_ : McIk S76_586 := McIk.frg y214_ gO_ m_ f587_ rfl rfl rfl
            exact ⟨g, m_, trivial⟩
          · refine ⟨?_, ?_⟩
            · exact m_.p12
            refine ⟨?_, ?_⟩
            · exact (dd_X8_argAt y212_ g (y212_.ref m_.p12 (y212_.2.1 _ finC_29).2.1))
            intro a84_602 ea84_602 
            unfold w_X5_step_J132
            intro y217_
            intro S76_603 eS76_603 y218_ y219_
            have f604_ : cfr [] [(45, 13)] S74_572 S76_603 := by rw [eS76_603]; exact cfr.oI y218_ (by decide)
            have o605_ : qO S76_603 44 12 = qO S74_572 44 12 := qO_eq (f604_.kO (y217_.2.1 _ finC_29).2.1 (by decide) (by decide))
            have t606_ : (qI S76_603 (qO S76_603 44 12) 4).toInt = (qI S74_572 (qO S74_572 44 12) 4).toInt := by rw [o605_]; exact congrArg Int32.toInt (f604_.kI (j := 4) (y217_.ref m_.p12 (y217_.2.1 _ finC_29).2.1) (by decide) (by decide))
            have t607_ : (qI S76_603 (qO S76_603 44 12) 9).toInt = (qI S74_572 (qO S74_572 44 12) 9).toInt := by rw [o605_]; exact congrArg Int32.toInt (f604_.kI (j := 9) (y217_.ref m_.p12 (y217_.2.1 _ finC_29).2.1) (by decide) (by decide))
            have t608_ : (qI S76_603 (qO S76_603 44 12) 2).toInt = (qI S74_572 (qO S74_572 44 12) 2).toInt := by rw [o605_]; exact congrArg Int32.toInt (f604_.kI (j := 2) (y217_.ref m_.p12 (y217_.2.1 _ finC_29).2.1) (by decide) (by decide))
            have t609_ : (qN S76_603 (qO S76_603 (qO S76_603 44 12) 1) : Int) = (qN S74_572 (qO S74_572 (qO S74_572 44 12) 1) : Int) := by rw [o605_]; exact f604_.kL (j := 1) y217_ (y217_.ref m_.p12 (y217_.2.1 _ finC_29).2.1) (g.row (y217_.ref m_.p12 (y217_.2.1 _ finC_29).2.1)).1.2.1 (by decide) (by decide)
            have t610_ : (qN S76_603 (qO S76_603 (qO S76_603 44 12) 8) : Int) = (qN S74_572 (qO S74_572 (qO S74_572 44 12) 8) : Int) := by rw [o605_]; exact f604_.kL (j := 8) y217_ (y217_.ref m_.p12 (y217_.2.1 _ finC_29).2.1) (g.row (y217_.ref m_.p12 (y217_.2.1 _ finC_29).2.1)).1.2.2.2.2.2.2 (by decide) (by decide)
            have t611_ : (qN S76_603 (qO S76_603 (qO S76_603 44 12) 7) : Int) = (qN S74_572 (qO S74_572 (qO S74_572 44 12) 7) : Int) := by rw [o605_]; exact f604_.kL (j := 7) y217_ (y217_.ref m_.p12 (y217_.2.1 _ finC_29).2.1) (g.row (y217_.ref m_.p12 (y217_.2.1 _ finC_29).2.1)).1.2.2.2.2.2.1 (by decide) (by decide)
            have t612_ : (qN S76_603 (qO S76_603 (qO S76_603 44 12) 0) : Int) = (qN S74_572 (qO S74_572 (qO S74_572 44 12) 0) : Int) := by rw [o605_]; exact f604_.kL (j := 0) y217_ (y217_.ref m_.p12 (y217_.2.1 _ finC_29).2.1) (g.row (y217_.ref m_.p12 (y217_.2.1 _ finC_29).2.1)).1.1 (by decide) (by decide)
            have t613_ : (qN S76_603 (qO S76_603 (qO S76_603 44 12) 6) : Int) = (qN S74_572 (qO S74_572 (qO S74_572 44 12) 6) : Int) := by rw [o605_]; exact f604_.kL (j := 6) y217_ (y217_.ref m_.p12 (y217_.2.1 _ finC_29).2.1) (g.row (y217_.ref m_.p12 (y217_.2.1 _ finC_29).2.1)).1.2.2.2.2.1 (by decide) (by decide)
            have t614_ : (qN S76_603 (qO S76_603 (qO S76_603 44 12) 3) : Int) = (qN S74_572 (qO S74_572 (qO S74_572 44 12) 3) : Int) := by rw [o605_]; exact f604_.kL (j := 3) y217_ (y217_.ref m_.p12 (y217_.2.1 _ finC_29).2.1) (g.row (y217_.ref m_.p12 (y217_.2.1 _ finC_29).2.1)).1.2.2.1 (by decide) (by decide)
            have t615_ : (qN S76_603 (qO S76_603 (qO S76_603 44 12) 5) : Int) = (qN S74_572 (qO S74_572 (qO S74_572 44 12) 5) : Int) := by rw [o605_]; exact f604_.kL (j := 5) y217_ (y217_.ref m_.p12 (y217_.2.1 _ finC_29).2.1) (g.row (y217_.ref m_.p12 (y217_.2.1 _ finC_29).2.1)).1.2.2.2.1 (by decide) (by decide)
            have t616_ : (qI S76_603 44 19).toInt = (qI S74_572 44 19).toInt := congrArg Int32.toInt (f604_.kI (j := 19) (y217_.2.1 _ finC_29).2.1 (by decide) (by decide))
            have t617_ : (qI S76_603 44 14).toInt = (qI S74_572 44 14).toInt := congrArg Int32.toInt (f604_.kI (j := 14) (y217_.2.1 _ finC_29).2.1 (by decide) (by decide))
            have t618_ : (qI S76_603 44 13).toInt = (a84_602.toInt32).toInt := by rw [eS76_603, qI_wI, if_pos ⟨rfl, rfl⟩]
            have gO_ := g
            have g : ShC B S76_603 := ShC.ws y217_ g f604_ (by rw [eS76_603]; rfl) (by rw [eS76_603]; rfl) (by rw [eS76_603]; rfl) rfl rfl
            have m_ : McIk S76_603 := McIk.frg y217_ gO_ m_ f604_ rfl rfl rfl
            exact ⟨g, m_, trivial⟩
      · refine ⟨?_, ?_⟩
        · exact dd_X6_gives
        intro a88_619 ea88_619 
        have ga88_619 := congrArg Int32.toInt ea88_619
        refine ⟨?_, ?_⟩
        · exact dd_X6_takes
        intro a92_620 ea92_620 
        have ga92_620 := congrArg Int32.toInt ea92_620
        refine ⟨_, frX5_pop_ y117_ (sfX5_pop_ y117_ ), ?_⟩
        intro r94_621 S95_621 q220_ y221_ y222_
        have o622_ : qO S95_621 44 12 = qO S111_326 44 12 := qO_eq (q220_.2.kO (y117_.2.1 _ finC_29).2.1 (by decide) (by decide))
        have t623_ : (qI S95_621 (qO S95_621 44 12) 4).toInt = (qI S111_326 (qO S111_326 44 12) 4).toInt := by rw [o622_]; exact congrArg Int32.toInt (q220_.2.kI (j := 4) (y117_.ref m_.p12 (y117_.2.1 _ finC_29).2.1) (by decide) (by decide))
        have t624_ : (qI S95_621 (qO S95_621 44 12) 9).toInt = (qI S111_326 (qO S111_326 44 12) 9).toInt := by rw [o622_]; exact congrArg Int32.toInt (q220_.2.kI (j := 9) (y117_.ref m_.p12 (y117_.2.1 _ finC_29).2.1) (by decide) (by decide))
        have t625_ : (qI S95_621 (qO S95_621 44 12) 2).toInt = (qI S111_326 (qO S111_326 44 12) 2).toInt := by rw [o622_]; exact congrArg Int32.toInt (q220_.2.kI (j := 2) (y117_.ref m_.p12 (y117_.2.1 _ finC_29).2.1) (by decide) (by decide))
        have t626_ : (qN S95_621 (qO S95_621 (qO S95_621 44 12) 1) : Int) = (qN S111_326 (qO S111_326 (qO S111_326 44 12) 1) : Int) := by rw [o622_]; exact q220_.2.kL (j := 1) y117_ (y117_.ref m_.p12 (y117_.2.1 _ finC_29).2.1) (g.row (y117_.ref m_.p12 (y117_.2.1 _ finC_29).2.1)).1.2.1 (by decide) (by decide)
        have t627_ : (qN S95_621 (qO S95_621 (qO S95_621 44 12) 8) : Int) = (qN S111_326 (qO S111_326 (qO S111_326 44 12) 8) : Int) := by rw [o622_]; exact q220_.2.kL (j := 8) y117_ (y117_.ref m_.p12 (y117_.2.1 _ finC_29).2.1) (g.row (y117_.ref m_.p12 (y117_.2.1 _ finC_29).2.1)).1.2.2.2.2.2.2 (by decide) (by decide)
        have t628_ : (qN S95_621 (qO S95_621 (qO S95_621 44 12) 7) : Int) = (qN S111_326 (qO S111_326 (qO S111_326 44 12) 7) : Int) := by rw [o622_]; exact q220_.2.kL (j := 7) y117_ (y117_.ref m_.p12 (y117_.2.1 _ finC_29).2.1) (g.row (y117_.ref m_.p12 (y117_.2.1 _ finC_29).2.1)).1.2.2.2.2.2.1 (by decide) (by decide)
        have t629_ : (qN S95_621 (qO S95_621 (qO S95_621 44 12) 0) : Int) = (qN S111_326 (qO S111_326 (qO S111_326 44 12) 0) : Int) := by rw [o622_]; exact q220_.2.kL (j := 0) y117_ (y117_.ref m_.p12 (y117_.2.1 _ finC_29).2.1) (g.row (y117_.ref m_.p12 (y117_.2.1 _ finC_29).2.1)).1.1 (by decide) (by decide)
        have t630_ : (qN S95_621 (qO S95_621 (qO S95_621 44 12) 6) : Int) = (qN S111_326 (qO S111_326 (qO S111_326 44 12) 6) : Int) := by rw [o622_]; exact q220_.2.kL (j := 6) y117_ (y117_.ref m_.p12 (y117_.2.1 _ finC_29).2.1) (g.row (y117_.ref m_.p12 (y117_.2.1 _ finC_29).2.1)).1.2.2.2.2.1 (by decide) (by decide)
        have t631_ : (qN S95_621 (qO S95_621 (qO S95_621 44 12) 3) : Int) = (qN S111_326 (qO S111_326 (qO S111_326 44 12) 3) : Int) := by rw [o622_]; exact q220_.2.kL (j := 3) y117_ (y117_.ref m_.p12 (y117_.2.1 _ finC_29).2.1) (g.row (y117_.ref m_.p12 (y117_.2.1 _ finC_29).2.1)).1.2.2.1 (by decide) (by decide)
        have t632_ : (qN S95_621 (qO S95_621 (qO S95_621 44 12) 5) : Int) = (qN S111_326 (qO S111_326 (qO S111_326 44 12) 5) : Int) := by rw [o622_]; exact q220_.2.kL (j := 5) y117_ (y117_.ref m_.p12 (y117_.2.1 _ finC_29).2.1) (g.row (y117_.ref m_.p12 (y117_.2.1 _ finC_29).2.1)).1.2.2.2.1 (by decide) (by decide)
        have t633_ : (qI S95_621 44 13).toInt = (qI S111_326 44 13).toInt := congrArg Int32.toInt (q220_.2.kI (j := 13) (y117_.2.1 _ finC_29).2.1 (by decide) (by decide))
        have gO_ := g
        have g : ShC B S95_621 := ShC.ca y117_ g q220_.2 y222_ y221_ rfl rfl
        have m_ : McIk S95_621 := McIk.frg y117_ gO_ m_ q220_.2 rfl rfl rfl
        refine ⟨?_, ?_⟩
        · exact dd_X6_unary
        intro a100_634 ea100_634 
        refine ⟨_, frX5_push_ y221_ (sfX5_push_ y221_ ), ?_⟩
        intro S102_635 q223_ y224_ y225_
        have o636_ : qO S102_635 44 12 = qO S95_621 44 12 := qO_eq (q223_.2.kO (y221_.2.1 _ finC_29).2.1 (by decide) (by decide))
        have t637_ : (qI S102_635 (qO S102_635 44 12) 4).toInt = (qI S95_621 (qO S95_621 44 12) 4).toInt := by rw [o636_]; exact congrArg Int32.toInt (q223_.2.kI (j := 4) (y221_.ref m_.p12 (y221_.2.1 _ finC_29).2.1) (by decide) (by decide))
        have t638_ : (qI S102_635 (qO S102_635 44 12) 9).toInt = (qI S95_621 (qO S95_621 44 12) 9).toInt := by rw [o636_]; exact congrArg Int32.toInt (q223_.2.kI (j := 9) (y221_.ref m_.p12 (y221_.2.1 _ finC_29).2.1) (by decide) (by decide))
        have t639_ : (qI S102_635 (qO S102_635 44 12) 2).toInt = (qI S95_621 (qO S95_621 44 12) 2).toInt := by rw [o636_]; exact congrArg Int32.toInt (q223_.2.kI (j := 2) (y221_.ref m_.p12 (y221_.2.1 _ finC_29).2.1) (by decide) (by decide))
        have t640_ : (qN S102_635 (qO S102_635 (qO S102_635 44 12) 1) : Int) = (qN S95_621 (qO S95_621 (qO S95_621 44 12) 1) : Int) := by rw [o636_]; exact q223_.2.kL (j := 1) y221_ (y221_.ref m_.p12 (y221_.2.1 _ finC_29).2.1) (g.row (y221_.ref m_.p12 (y221_.2.1 _ finC_29).2.1)).1.2.1 (by decide) (by decide)
        have t641_ : (qN S102_635 (qO S102_635 (qO S102_635 44 12) 8) : Int) = (qN S95_621 (qO S95_621 (qO S95_621 44 12) 8) : Int) := by rw [o636_]; exact q223_.2.kL (j := 8) y221_ (y221_.ref m_.p12 (y221_.2.1 _ finC_29).2.1) (g.row (y221_.ref m_.p12 (y221_.2.1 _ finC_29).2.1)).1.2.2.2.2.2.2 (by decide) (by decide)
        have t642_ : (qN S102_635 (qO S102_635 (qO S102_635 44 12) 7) : Int) = (qN S95_621 (qO S95_621 (qO S95_621 44 12) 7) : Int) := by rw [o636_]; exact q223_.2.kL (j := 7) y221_ (y221_.ref m_.p12 (y221_.2.1 _ finC_29).2.1) (g.row (y221_.ref m_.p12 (y221_.2.1 _ finC_29).2.1)).1.2.2.2.2.2.1 (by decide) (by decide)
        have t643_ : (qN S102_635 (qO S102_635 (qO S102_635 44 12) 0) : Int) = (qN S95_621 (qO S95_621 (qO S95_621 44 12) 0) : Int) := by rw [o636_]; exact q223_.2.kL (j := 0) y221_ (y221_.ref m_.p12 (y221_.2.1 _ finC_29).2.1) (g.row (y221_.ref m_.p12 (y221_.2.1 _ finC_29).2.1)).1.1 (by decide) (by decide)
        have t644_ : (qN S102_635 (qO S102_635 (qO S102_635 44 12) 6) : Int) = (qN S95_621 (qO S95_621 (qO S95_621 44 12) 6) : Int) := by rw [o636_]; exact q223_.2.kL (j := 6) y221_ (y221_.ref m_.p12 (y221_.2.1 _ finC_29).2.1) (g.row (y221_.ref m_.p12 (y221_.2.1 _ finC_29).2.1)).1.2.2.2.2.1 (by decide) (by decide)
        have t645_ : (qN S102_635 (qO S102_635 (qO S102_635 44 12) 3) : Int) = (qN S95_621 (qO S95_621 (qO S95_621 44 12) 3) : Int) := by rw [o636_]; exact q223_.2.kL (j := 3) y221_ (y221_.ref m_.p12 (y221_.2.1 _ finC_29).2.1) (g.row (y221_.ref m_.p12 (y221_.2.1 _ finC_29).2.1)).1.2.2.1 (by decide) (by decide)
        have t646_ : (qN S102_635 (qO S102_635 (qO S102_635 44 12) 5) : Int) = (qN S95_621 (qO S95_621 (qO S95_621 44 12) 5) : Int) := by rw [o636_]; exact q223_.2.kL (j := 5) y221_ (y221_.ref m_.p12 (y221_.2.1 _ finC_29).2.1) (g.row (y221_.ref m_.p12 (y221_.2.1 _ finC_29).2.1)).1.2.2.2.1 (by decide) (by decide)
        have t647_ : (qI S102_635 44 13).toInt = (qI S95_621 44 13).toInt := congrArg Int32.toInt (q223_.2.kI (j := 13) (y221_.2.1 _ finC_29).2.1 (by decide) (by decide))
        have gO_ := g
        have g : ShC B S102_635 := ShC.ca y221_ g q223_.2 y225_ y224_ rfl rfl
        have m_ : McIk S102_635 := McIk.frg y221_ gO_ m_ q223_.2 rfl rfl rfl
        intro S105_648 eS105_648 y226_ y227_
        have f649_ : cfr [] [(45, 13)] S102_635 S105_648 := by rw [eS105_648]; exact cfr.oI y226_ (by decide)
        have o650_ : qO S105_648 44 12 = qO S102_635 44 12 := qO_eq (f649_.kO (y224_.2.1 _ finC_29).2.1 (by decide) (by decide))
        have t651_ : (qI S105_648 (qO S105_648 44 12) 4).toInt = (qI S102_635 (qO S102_635 44 12) 4).toInt := by rw [o650_]; exact congrArg Int32.toInt (f649_.kI (j := 4) (y224_.ref m_.p12 (y224_.2.1 _ finC_29).2.1) (by decide) (by decide))
        have t652_ : (qI S105_648 (qO S105_648 44 12) 9).toInt = (qI S102_635 (qO S102_635 44 12) 9).toInt := by rw [o650_]; exact congrArg Int32.toInt (f649_.kI (j := 9) (y224_.ref m_.p12 (y224_.2.1 _ finC_29).2.1) (by decide) (by decide))
        have t653_ : (qI S105_648 (qO S105_648 44 12) 2).toInt = (qI S102_635 (qO S102_635 44 12) 2).toInt := by rw [o650_]; exact congrArg Int32.toInt (f649_.kI (j := 2) (y224_.ref m_.p12 (y224_.2.1 _ finC_29).2.1) (by decide) (by decide))
        have t654_ : (qN S105_648 (qO S105_648 (qO S105_648 44 12) 1) : Int) = (qN S102_635 (qO S102_635 (qO S102_635 44 12) 1) : Int) := by rw [o650_]; exact f649_.kL (j := 1) y224_ (y224_.ref m_.p12 (y224_.2.1 _ finC_29).2.1) (g.row (y224_.ref m_.p12 (y224_.2.1 _ finC_29).2.1)).1.2.1 (by decide) (by decide)
        have t655_ : (qN S105_648 (qO S105_648 (qO S105_648 44 12) 8) : Int) = (qN S102_635 (qO S102_635 (qO S102_635 44 12) 8) : Int) := by rw [o650_]; exact f649_.kL (j := 8) y224_ (y224_.ref m_.p12 (y224_.2.1 _ finC_29).2.1) (g.row (y224_.ref m_.p12 (y224_.2.1 _ finC_29).2.1)).1.2.2.2.2.2.2 (by decide) (by decide)
        have t656_ : (qN S105_648 (qO S105_648 (qO S105_648 44 12) 7) : Int) = (qN S102_635 (qO S102_635 (qO S102_635 44 12) 7) : Int) := by rw [o650_]; exact f649_.kL (j := 7) y224_ (y224_.ref m_.p12 (y224_.2.1 _ finC_29).2.1) (g.row (y224_.ref m_.p12 (y224_.2.1 _ finC_29).2.1)).1.2.2.2.2.2.1 (by decide) (by decide)
        have t657_ : (qN S105_648 (qO S105_648 (qO S105_648 44 12) 0) : Int) = (qN S102_635 (qO S102_635 (qO S102_635 44 12) 0) : Int) := by rw [o650_]; exact f649_.kL (j := 0) y224_ (y224_.ref m_.p12 (y224_.2.1 _ finC_29).2.1) (g.row (y224_.ref m_.p12 (y224_.2.1 _ finC_29).2.1)).1.1 (by decide) (by decide)
        have t658_ : (qN S105_648 (qO S105_648 (qO S105_648 44 12) 6) : Int) = (qN S102_635 (qO S102_635 (qO S102_635 44 12) 6) : Int) := by rw [o650_]; exact f649_.kL (j := 6) y224_ (y224_.ref m_.p12 (y224_.2.1 _ finC_29).2.1) (g.row (y224_.ref m_.p12 (y224_.2.1 _ finC_29).2.1)).1.2.2.2.2.1 (by decide) (by decide)
        have t659_ : (qN S105_648 (qO S105_648 (qO S105_648 44 12) 3) : Int) = (qN S102_635 (qO S102_635 (qO S102_635 44 12) 3) : Int) := by rw [o650_]; exact f649_.kL (j := 3) y224_ (y224_.ref m_.p12 (y224_.2.1 _ finC_29).2.1) (g.row (y224_.ref m_.p12 (y224_.2.1 _ finC_29).2.1)).1.2.2.1 (by decide) (by decide)
        have t660_ : (qN S105_648 (qO S105_648 (qO S105_648 44 12) 5) : Int) = (qN S102_635 (qO S102_635 (qO S102_635 44 12) 5) : Int) := by rw [o650_]; exact f649_.kL (j := 5) y224_ (y224_.ref m_.p12 (y224_.2.1 _ finC_29).2.1) (g.row (y224_.ref m_.p12 (y224_.2.1 _ finC_29).2.1)).1.2.2.2.1 (by decide) (by decide)
        have t661_ : (qI S105_648 44 19).toInt = (qI S102_635 44 19).toInt := congrArg Int32.toInt (f649_.kI (j := 19) (y224_.2.1 _ finC_29).2.1 (by decide) (by decide))
        have t662_ : (qI S105_648 44 14).toInt = (qI S102_635 44 14).toInt := congrArg Int32.toInt (f649_.kI (j := 14) (y224_.2.1 _ finC_29).2.1 (by decide) (by decide))
        have t663_ : (qI S105_648 44 13).toInt = ((qI S102_635 44 13) + (1 : Int32)).toInt := by rw [eS105_648, qI_wI, if_pos ⟨rfl, rfl⟩]
        have gO_ := g
        have g : ShC B S105_648 := ShC.ws y224_ g f649_ (by rw [eS105_648]; rfl) (by rw [eS105_648]; rfl) (by rw [eS105_648]; rfl) rfl rfl
        have m_ : McIk S105_648 := McIk.frg y224_ gO_ m_ f649_ rfl rfl rfl
        exact ⟨g, m_, trivial⟩
    · refine ⟨_, frX5_calculate y117_ (sgX5_calculate y117_ g m_), ?_⟩
      intro S107_664 q228_ y229_ y230_
      have gO_ := g
      have g : ShC B S107_664 := q228_.1.1
      have m_ : McIk S107_664 := q228_.1.2.1
      exact ⟨g, m_, trivial⟩
