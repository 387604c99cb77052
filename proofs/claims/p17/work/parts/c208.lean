set_option maxRecDepth 100000 in
theorem fr_X11_methodEntryOf_J88 {S0 : MS} {Q : Int32 → MS → Prop} {U88 : MS} {v88_1 : Int32} (f : cfr [101, 238, 239, 243] [(40, 0), (40, 1), (50, 5), (50, 6)] S0 U88) (h : w_X11_methodEntryOf_J88 Q U88 v88_1) : w_X11_methodEntryOf_J88 (fun r u => Q r u ∧ cfr [101, 238, 239, 243] [(40, 0), (40, 1), (50, 5), (50, 6)] S0 u) U88 v88_1 := by
  unfold w_X11_methodEntryOf_J88 at h ⊢
  intro y1_
  replace h := h y1_
  refine ⟨h.1, ?_⟩
  replace h := h.2
  exact ⟨h, f⟩
set_option maxRecDepth 100000 in
theorem frX11_methodEntryOf {S : MS} {x1 : Int32} {Q : Int32 → MS → Prop} (hw : wfC S) (h : wX11_methodEntryOf S x1 Q) : wX11_methodEntryOf S x1 (fun r u => Q r u ∧ cfr [101, 238, 239, 243] [(40, 0), (40, 1), (50, 5), (50, 6)] S u) := by
  have f : cfr [101, 238, 239, 243] [(40, 0), (40, 1), (50, 5), (50, 6)] S S := cfr.rf
  unfold wX11_methodEntryOf at h ⊢
  refine ⟨fun c => ?_, fun c => ?_⟩
  · replace h := h.1 c
    exact ⟨h, f⟩
  · replace h := h.2 c
    refine ⟨fun c => ?_, fun c => ?_⟩
    · replace h := h.1 c
      exact ⟨h, f⟩
    · replace h := h.2 c
      refine ⟨h.1, ?_⟩
      replace h := h.2
      refine ⟨h.1, ?_⟩
      replace h := h.2
      refine ⟨fun c => ?_, fun c => ?_⟩
      · replace h := h.1 c
        refine ⟨h.1, ?_⟩
        replace h := h.2
        refine ⟨fun c => ?_, fun c => ?_⟩
        · replace h := h.1 c
          refine ⟨h.1, ?_⟩
          replace h := h.2
          refine ⟨h.1, ?_⟩
          replace h := h.2
          refine ⟨h.1, ?_⟩
          replace h := h.2
          obtain ⟨Q9, h0, h⟩ := h
          refine ⟨_, frX11_nameEntry hw h0, ?_⟩
          intro r21 S22 q2_ y3_ y4_
          replace h := h r21 S22 q2_.1 y3_ y4_
          replace f := f.tr (q2_.2.mo (by decide) (by decide))
          refine ⟨h.1, ?_⟩
          replace h := h.2
          refine ⟨h.1, ?_⟩
          replace h := h.2
          refine ⟨h.1, ?_⟩
          replace h := h.2
          obtain ⟨Q9, h0, h⟩ := h
          refine ⟨_, frX11_nameEntry y3_ h0, ?_⟩
          intro r32 S33 q5_ y6_ y7_
          replace h := h r32 S33 q5_.1 y6_ y7_
          replace f := f.tr (q5_.2.mo (by decide) (by decide))
          obtain ⟨Q9, h0, h⟩ := h
          refine ⟨_, frX11_pointersEntry y6_ h0, ?_⟩
          intro r37 S38 q8_ y9_ y10_
          replace h := h r37 S38 q8_.1 y9_ y10_
          replace f := f.tr (q8_.2.mo (by decide) (by decide))
          obtain ⟨Q9, h0, h⟩ := h
          refine ⟨_, frX11_pointersEntry y9_ h0, ?_⟩
          intro r42 S43 q11_ y12_ y13_
          replace h := h r42 S43 q11_.1 y12_ y13_
          replace f := f.tr (q11_.2.mo (by decide) (by decide))
          refine ⟨h.1, ?_⟩
          replace h := h.2
          intro S47 eS47 y14_ y15_
          replace h := h S47 eS47 y14_ y15_
          replace f := f.tr (show cfr [101, 238, 239, 243] [(40, 0), (40, 1), (50, 5), (50, 6)] S43 S47 by rw [eS47]; exact cfr.aI y14_ (by decide))
          exact fr_X11_methodEntryOf_J88 f h
        · replace h := h.2 c
          exact fr_X11_methodEntryOf_J88 f h
      · replace h := h.2 c
        exact ⟨h, f⟩
set_option maxRecDepth 100000 in
theorem frX11_classOf {S : MS} {x1 : Int32} {Q : Int32 → MS → Prop} (hw : wfC S) (h : wX11_classOf S x1 Q) : wX11_classOf S x1 (fun r u => Q r u ∧ cfr [101, 238, 239] [(40, 0), (40, 1), (50, 5), (50, 6)] S u) := by
  have f : cfr [101, 238, 239] [(40, 0), (40, 1), (50, 5), (50, 6)] S S := cfr.rf
  unfold wX11_classOf at h ⊢
  refine ⟨fun c => ?_, fun c => ?_⟩
  · replace h := h.1 c
    exact ⟨h, f⟩
  · replace h := h.2 c
    refine ⟨h.1, ?_⟩
    replace h := h.2
    intro y1_
    replace h := h y1_
    obtain ⟨Q9, h0, h⟩ := h
    refine ⟨_, frX11_textEntry hw h0, ?_⟩
    intro r6 S7 q2_ y3_ y4_
    replace h := h r6 S7 q2_.1 y3_ y4_
    replace f := f.tr (q2_.2.mo (by decide) (by decide))
    obtain ⟨Q9, h0, h⟩ := h
    refine ⟨_, frX11_pointerEntry y3_ h0, ?_⟩
    intro r11 S12 q5_ y6_ y7_
    replace h := h r11 S12 q5_.1 y6_ y7_
    replace f := f.tr (q5_.2.mo (by decide) (by decide))
    exact ⟨h, f⟩
set_option maxRecDepth 100000 in
theorem fr_X11_needOf_J110 {S0 : MS} {Q : Int32 → MS → Prop} {U110 : MS} {v110_2 : Int64} (f : cfr [101, 238, 239, 242, 243] [(40, 0), (40, 1), (50, 5), (50, 6)] S0 U110) (h : w_X11_needOf_J110 Q U110 v110_2) : w_X11_needOf_J110 (fun r u => Q r u ∧ cfr [101, 238, 239, 242, 243] [(40, 0), (40, 1), (50, 5), (50, 6)] S0 u) U110 v110_2 := by
  unfold w_X11_needOf_J110 at h ⊢
  intro y1_
  replace h := h y1_
  obtain ⟨Q9, h0, h⟩ := h
  refine ⟨_, frX11_fieldEntryOf y1_ h0, ?_⟩
  intro r13 S14 q2_ y3_ y4_
  replace h := h r13 S14 q2_.1 y3_ y4_
  replace f := f.tr (q2_.2.mo (by decide) (by decide))
  exact ⟨h, f⟩
set_option maxRecDepth 100000 in
theorem fr_X11_needOf_J100 {S0 : MS} {Q : Int32 → MS → Prop} {U100 : MS} (f : cfr [101, 238, 239, 242, 243] [(40, 0), (40, 1), (50, 5), (50, 6)] S0 U100) (h : w_X11_needOf_J100 Q U100) : w_X11_needOf_J100 (fun r u => Q r u ∧ cfr [101, 238, 239, 242, 243] [(40, 0), (40, 1), (50, 5), (50, 6)] S0 u) U100 := by
  unfold w_X11_needOf_J100 at h ⊢
  intro y5_
  replace h := h y5_
  exact ⟨h, f⟩
set_option maxRecDepth 100000 in
theorem frX11_needOf {S : MS} {x1 : Int32} {Q : Int32 → MS → Prop} (hw : wfC S) (h : wX11_needOf S x1 Q) : wX11_needOf S x1 (fun r u => Q r u ∧ cfr [101, 238, 239, 242, 243] [(40, 0), (40, 1), (50, 5), (50, 6)] S u) := by
  have f : cfr [101, 238, 239, 242, 243] [(40, 0), (40, 1), (50, 5), (50, 6)] S S := cfr.rf
  unfold wX11_needOf at h ⊢
  refine ⟨h.1, ?_⟩
  replace h := h.2
  refine ⟨h.1, ?_⟩
  replace h := h.2
  intro a6 ea6 
  replace h := h a6 ea6 
  refine ⟨h.1, ?_⟩
  replace h := h.2
  refine ⟨h.1, ?_⟩
  replace h := h.2
  refine ⟨fun c => ?_, fun c => ?_⟩
  · replace h := h.1 c
    refine ⟨fun c => ?_, fun c => ?_⟩
    · replace h := h.1 c
      exact ⟨h, f⟩
    · replace h := h.2 c
      obtain ⟨Q9, h0, h⟩ := h
      refine ⟨_, frX11_intEntry hw h0, ?_⟩
      intro r20 S21 q6_ y7_ y8_
      replace h := h r20 S21 q6_.1 y7_ y8_
      replace f := f.tr (q6_.2.mo (by decide) (by decide))
      exact ⟨h, f⟩
  · replace h := h.2 c
    refine ⟨fun c => ?_, fun c => ?_⟩
    · replace h := h.1 c
      refine ⟨fun c => ?_, fun c => ?_⟩
      · replace h := h.1 c
        exact fr_X11_needOf_J100 f h
      · replace h := h.2 c
        refine ⟨fun c => ?_, fun c => ?_⟩
        · replace h := h.1 c
          exact fr_X11_needOf_J100 f h
        · replace h := h.2 c
          obtain ⟨Q9, h0, h⟩ := h
          refine ⟨_, frX11_longEntry hw h0, ?_⟩
          intro r29 S30 q9_ y10_ y11_
          replace h := h r29 S30 q9_.1 y10_ y11_
          replace f := f.tr (q9_.2.mo (by decide) (by decide))
          exact ⟨h, f⟩
    · replace h := h.2 c
      refine ⟨fun c => ?_, fun c => ?_⟩
      · replace h := h.1 c
        exact fr_X11_needOf_J110 f h
      · replace h := h.2 c
        refine ⟨fun c => ?_, fun c => ?_⟩
        · replace h := h.1 c
          exact fr_X11_needOf_J110 f h
        · replace h := h.2 c
          refine ⟨fun c => ?_, fun c => ?_⟩
          · replace h := h.1 c
            obtain ⟨Q9, h0, h⟩ := h
            refine ⟨_, frX11_methodEntryOf hw h0, ?_⟩
            intro r34 S35 q12_ y13_ y14_
            replace h := h r34 S35 q12_.1 y13_ y14_
            replace f := f.tr (q12_.2.mo (by decide) (by decide))
            exact ⟨h, f⟩
          · replace h := h.2 c
            exact ⟨h, f⟩
set_option maxRecDepth 100000 in
theorem fr_X11_putInstruction_J33 {S0 : MS} {Q : MS → Prop} {U33 : MS} {v33_3 : Int32} {v33_4 : Int64} (f : cfr [101] [(40, 0), (40, 1)] S0 U33) (h : w_X11_putInstruction_J33 Q U33 v33_3 v33_4) : w_X11_putInstruction_J33 (fun u => Q u ∧ cfr [101] [(40, 0), (40, 1)] S0 u) U33 v33_3 v33_4 := by
  unfold w_X11_putInstruction_J33 at h ⊢
  intro y1_
  replace h := h y1_
  obtain ⟨Q9, h0, h⟩ := h
  refine ⟨_, frX11_putLocal y1_ h0, ?_⟩
  intro S18 q2_ y3_ y4_
  replace h := h S18 q2_.1 y3_ y4_
  replace f := f.tr (q2_.2.mo (by decide) (by decide))
  exact ⟨h, f⟩
set_option maxRecDepth 100000 in
theorem fr_X11_putInstruction_J200 {S0 : MS} {Q : MS → Prop} {U200 : MS} {v200_1 : Int32} (f : cfr [101] [(40, 0), (40, 1)] S0 U200) (h : w_X11_putInstruction_J200 Q U200 v200_1) : w_X11_putInstruction_J200 (fun u => Q u ∧ cfr [101] [(40, 0), (40, 1)] S0 u) U200 v200_1 := by
  unfold w_X11_putInstruction_J200 at h ⊢
  intro y5_
  replace h := h y5_
  refine ⟨h.1, ?_⟩
  replace h := h.2
  intro y6_
  replace h := h y6_
  obtain ⟨Q9, h0, h⟩ := h
  refine ⟨_, frX0_put2 y5_ h0, ?_⟩
  intro S48 q7_ y8_ y9_
  replace h := h S48 q7_.1 y8_ y9_
  replace f := f.tr (q7_.2.mo (by decide) (by decide))
  exact ⟨h, f⟩
set_option maxRecDepth 100000 in
theorem frX11_putInstruction {S : MS} {x1 : Int32} {x2 : Int32} {Q : MS → Prop} (hw : wfC S) (h : wX11_putInstruction S x1 x2 Q) : wX11_putInstruction S x1 x2 (fun u => Q u ∧ cfr [101] [(40, 0), (40, 1)] S u) := by
  have f : cfr [101] [(40, 0), (40, 1)] S S := cfr.rf
  unfold wX11_putInstruction at h ⊢
  refine ⟨h.1, ?_⟩
  replace h := h.2
  refine ⟨h.1, ?_⟩
  replace h := h.2
  intro a6 ea6 
  replace h := h a6 ea6 
  refine ⟨h.1, ?_⟩
  replace h := h.2
  refine ⟨h.1, ?_⟩
  replace h := h.2
  intro a12 ea12 
  replace h := h a12 ea12 
  refine ⟨h.1, ?_⟩
  replace h := h.2
  intro a16 ea16 
  replace h := h a16 ea16 
  refine ⟨fun c => ?_, fun c => ?_⟩
  · replace h := h.1 c
    refine ⟨h.1, ?_⟩
    replace h := h.2
    intro a25 ea25 
    replace h := h a25 ea25 
    refine ⟨fun c => ?_, fun c => ?_⟩
    · replace h := h.1 c
      refine ⟨h.1, ?_⟩
      replace h := h.2
      intro a30 ea30 
      replace h := h a30 ea30 
      refine ⟨fun c => ?_, fun c => ?_⟩
      · replace h := h.1 c
        refine ⟨h.1, ?_⟩
        replace h := h.2
        intro a35 ea35 
        replace h := h a35 ea35 
        refine ⟨fun c => ?_, fun c => ?_⟩
        · replace h := h.1 c
          refine ⟨fun c => ?_, fun c => ?_⟩
          · replace h := h.1 c
            refine ⟨h.1, ?_⟩
            replace h := h.2
            obtain ⟨Q9, h0, h⟩ := h
            refine ⟨_, frX11_putInt hw h0, ?_⟩
            intro S86 q10_ y11_ y12_
            replace h := h S86 q10_.1 y11_ y12_
            replace f := f.tr (q10_.2.mo (by decide) (by decide))
            exact ⟨h, f⟩
          · replace h := h.2 c
            refine ⟨fun c => ?_, fun c => ?_⟩
            · replace h := h.1 c
              refine ⟨h.1, ?_⟩
              replace h := h.2
              obtain ⟨Q9, h0, h⟩ := h
              refine ⟨_, frX11_putLong hw h0, ?_⟩
              intro S79 q13_ y14_ y15_
              replace h := h S79 q13_.1 y14_ y15_
              replace f := f.tr (q13_.2.mo (by decide) (by decide))
              exact ⟨h, f⟩
            · replace h := h.2 c
              refine ⟨fun c => ?_, fun c => ?_⟩
              · replace h := h.1 c
                refine ⟨h.1, ?_⟩
                replace h := h.2
                refine ⟨h.1, ?_⟩
                replace h := h.2
                intro a64 ea64 
                replace h := h a64 ea64 
                refine ⟨h.1, ?_⟩
                replace h := h.2
                refine ⟨h.1, ?_⟩
                replace h := h.2
                intro a70 ea70 
                replace h := h a70 ea70 
                obtain ⟨Q9, h0, h⟩ := h
                refine ⟨_, frX11_putGrow hw h0, ?_⟩
                intro S72 q16_ y17_ y18_
                replace h := h S72 q16_.1 y17_ y18_
                replace f := f.tr (q16_.2.mo (by decide) (by decide))
                exact ⟨h, f⟩
              · replace h := h.2 c
                intro y19_
                replace h := h y19_
                obtain ⟨Q9, h0, h⟩ := h
                refine ⟨_, frX0_put hw h0, ?_⟩
                intro S41 q20_ y21_ y22_
                replace h := h S41 q20_.1 y21_ y22_
                replace f := f.tr (q20_.2.mo (by decide) (by decide))
                refine ⟨fun c => ?_, fun c => ?_⟩
                · replace h := h.1 c
                  exact fr_X11_putInstruction_J200 f h
                · replace h := h.2 c
                  refine ⟨fun c => ?_, fun c => ?_⟩
                  · replace h := h.1 c
                    exact fr_X11_putInstruction_J200 f h
                  · replace h := h.2 c
                    refine ⟨fun c => ?_, fun c => ?_⟩
                    · replace h := h.1 c
                      exact fr_X11_putInstruction_J200 f h
                    · replace h := h.2 c
                      refine ⟨fun c => ?_, fun c => ?_⟩
                      · replace h := h.1 c
                        intro y23_
                        replace h := h y23_
                        obtain ⟨Q9, h0, h⟩ := h
                        refine ⟨_, frX0_put y21_ h0, ?_⟩
                        intro S56 q24_ y25_ y26_
                        replace h := h S56 q24_.1 y25_ y26_
                        replace f := f.tr (q24_.2.mo (by decide) (by decide))
                        exact ⟨h, f⟩
                      · replace h := h.2 c
                        exact ⟨h, f⟩
        · replace h := h.2 c
          obtain ⟨Q9, h0, h⟩ := h
          refine ⟨_, frX11_putSwitch hw h0, ?_⟩
          intro S90 q27_ y28_ y29_
          replace h := h S90 q27_.1 y28_ y29_
          replace f := f.tr (q27_.2.mo (by decide) (by decide))
          exact ⟨h, f⟩
      · replace h := h.2 c
        intro y30_
        replace h := h y30_
        obtain ⟨Q9, h0, h⟩ := h
        refine ⟨_, frX0_put hw h0, ?_⟩
        intro S94 q31_ y32_ y33_
        replace h := h S94 q31_.1 y32_ y33_
        replace f := f.tr (q31_.2.mo (by decide) (by decide))
        refine ⟨h.1, ?_⟩
        replace h := h.2
        intro a100 ea100 
        replace h := h a100 ea100 
        refine ⟨h.1, ?_⟩
        replace h := h.2
        intro a104 ea104 
        replace h := h a104 ea104 
        intro y34_
        replace h := h y34_
        obtain ⟨Q9, h0, h⟩ := h
        refine ⟨_, frX0_put2 y32_ h0, ?_⟩
        intro S107 q35_ y36_ y37_
        replace h := h S107 q35_.1 y36_ y37_
        replace f := f.tr (q35_.2.mo (by decide) (by decide))
        exact ⟨h, f⟩
    · replace h := h.2 c
      exact fr_X11_putInstruction_J33 f h
  · replace h := h.2 c
    exact fr_X11_putInstruction_J33 f h
set_option maxRecDepth 100000 in
theorem frX12_size {S : MS} {x1 : Int32} {x2 : Int32} {Q : Int32 → MS → Prop} (hw : wfC S) (h : wX12_size S x1 x2 Q) : wX12_size S x1 x2 (fun r u => Q r u ∧ cfr [] [] S u) := by
  have f : cfr [] [] S S := cfr.rf
  unfold wX12_size at h ⊢
  obtain ⟨Q9, h0, h⟩ := h
  refine ⟨_, frX12_unitAt hw h0, ?_⟩
  intro b5 S3 q1_ y2_ y3_ y4_
  replace h := h b5 S3 q1_.1 y2_ y3_ y4_
  replace f := f.tr (q1_.2.mo (by decide) (by decide))
  refine ⟨fun c => ?_, fun c => ?_⟩
  · replace h := h.1 c
    exact ⟨h, f⟩
  · replace h := h.2 c
    refine ⟨fun c => ?_, fun c => ?_⟩
    · replace h := h.1 c
      exact ⟨h, f⟩
    · replace h := h.2 c
      refine ⟨fun c => ?_, fun c => ?_⟩
      · replace h := h.1 c
        exact ⟨h, f⟩
      · replace h := h.2 c
        refine ⟨fun c => ?_, fun c => ?_⟩
        · replace h := h.1 c
          exact ⟨h, f⟩
        · replace h := h.2 c
          refine ⟨fun c => ?_, fun c => ?_⟩
          · replace h := h.1 c
            exact ⟨h, f⟩
          · replace h := h.2 c
            exact ⟨h, f⟩
set_option maxRecDepth 100000 in
theorem frX12_length {S : MS} {x1 : Int32} {x2 : Int32} {Q : Int32 → MS → Prop} (hw : wfC S) (h : wX12_length S x1 x2 Q) : wX12_length S x1 x2 (fun r u => Q r u ∧ cfr [] [] S u) := by
  have f : cfr [] [] S S := cfr.rf
  unfold wX12_length at h ⊢
  obtain ⟨Q9, h0, h⟩ := h
  refine ⟨_, frX12_rowAt hw h0, ?_⟩
  intro b5 S3 q1_ y2_ y3_ y4_
  replace h := h b5 S3 q1_.1 y2_ y3_ y4_
  replace f := f.tr (q1_.2.mo (by decide) (by decide))
  refine ⟨fun c => ?_, fun c => ?_⟩
  · replace h := h.1 c
    exact ⟨h, f⟩
  · replace h := h.2 c
    exact ⟨h, f⟩
set_option maxRecDepth 100000 in
theorem fr_X12_height_J18 {S0 : MS} {Q : Int32 → MS → Prop} {U18 : MS} {t18_0 : Option Nat} {v18_3 : Int32} (f : cfr [] [] S0 U18) (h : w_X12_height_J18 Q U18 t18_0 v18_3) : w_X12_height_J18 (fun r u => Q r u ∧ cfr [] [] S0 u) U18 t18_0 v18_3 := by
  unfold w_X12_height_J18 at h ⊢
  intro y1_ y2_
  replace h := h y1_ y2_
  refine ⟨fun c => ?_, fun c => ?_⟩
  · replace h := h.1 c
    exact ⟨h, f⟩
  · replace h := h.2 c
    refine ⟨h.1, ?_⟩
    replace h := h.2
    exact ⟨h, f⟩
set_option maxRecDepth 100000 in
theorem frX12_height {S : MS} {x1 : Int32} {x2 : Int32} {x3 : Int32} {Q : Int32 → MS → Prop} (hw : wfC S) (h : wX12_height S x1 x2 x3 Q) : wX12_height S x1 x2 x3 (fun r u => Q r u ∧ cfr [] [] S u) := by
  have f : cfr [] [] S S := cfr.rf
  unfold wX12_height at h ⊢
  obtain ⟨Q9, h0, h⟩ := h
  refine ⟨_, frX12_soundUnitAt hw h0, ?_⟩
  intro b5 S3 q3_ y4_ y5_ y6_
  replace h := h b5 S3 q3_.1 y4_ y5_ y6_
  replace f := f.tr (q3_.2.mo (by decide) (by decide))
  refine ⟨fun c => ?_, fun c => ?_⟩
  · replace h := h.1 c
    exact fr_X12_height_J18 f h
  · replace h := h.2 c
    obtain ⟨Q9, h0, h⟩ := h
    refine ⟨_, frX12_rowAt y4_ h0, ?_⟩
    intro b15 S13 q7_ y8_ y9_ y10_
    replace h := h b15 S13 q7_.1 y8_ y9_ y10_
    replace f := f.tr (q7_.2.mo (by decide) (by decide))
    exact fr_X12_height_J18 f h
set_option maxRecDepth 100000 in
theorem fr_X12_local_J18 {S0 : MS} {Q : Int32 → MS → Prop} {U18 : MS} {t18_0 : Option Nat} {v18_3 : Int32} {v18_4 : Int32} (f : cfr [] [] S0 U18) (h : w_X12_local_J18 Q U18 t18_0 v18_3 v18_4) : w_X12_local_J18 (fun r u => Q r u ∧ cfr [] [] S0 u) U18 t18_0 v18_3 v18_4 := by
  unfold w_X12_local_J18 at h ⊢
  intro y1_ y2_
  replace h := h y1_ y2_
  refine ⟨fun c => ?_, fun c => ?_⟩
  · replace h := h.1 c
    exact ⟨h, f⟩
  · replace h := h.2 c
    refine ⟨h.1, ?_⟩
    replace h := h.2
    refine ⟨fun c => ?_, fun c => ?_⟩
    · replace h := h.1 c
      exact ⟨h, f⟩
    · replace h := h.2 c
      refine ⟨fun c => ?_, fun c => ?_⟩
      · replace h := h.1 c
        exact ⟨h, f⟩
      · replace h := h.2 c
        refine ⟨fun c => ?_, fun c => ?_⟩
        · replace h := h.1 c
          refine ⟨h.1, ?_⟩
          replace h := h.2
          exact ⟨h, f⟩
        · replace h := h.2 c
          exact ⟨h, f⟩
set_option maxRecDepth 100000 in
theorem frX12_local {S : MS} {x1 : Int32} {x2 : Int32} {x3 : Int32} {x4 : Int32} {Q : Int32 → MS → Prop} (hw : wfC S) (h : wX12_local S x1 x2 x3 x4 Q) : wX12_local S x1 x2 x3 x4 (fun r u => Q r u ∧ cfr [] [] S u) := by
  have f : cfr [] [] S S := cfr.rf
  unfold wX12_local at h ⊢
  obtain ⟨Q9, h0, h⟩ := h
  refine ⟨_, frX12_soundUnitAt hw h0, ?_⟩
  intro b5 S3 q3_ y4_ y5_ y6_
  replace h := h b5 S3 q3_.1 y4_ y5_ y6_
  replace f := f.tr (q3_.2.mo (by decide) (by decide))
  refine ⟨fun c => ?_, fun c => ?_⟩
  · replace h := h.1 c
    exact fr_X12_local_J18 f h
  · replace h := h.2 c
    obtain ⟨Q9, h0, h⟩ := h
    refine ⟨_, frX12_rowAt y4_ h0, ?_⟩
    intro b21 S19 q7_ y8_ y9_ y10_
    replace h := h b21 S19 q7_.1 y8_ y9_ y10_
    replace f := f.tr (q7_.2.mo (by decide) (by decide))
    exact fr_X12_local_J18 f h
set_option maxRecDepth 100000 in
theorem frX12_stage {S : MS} {x1 : Int32} {Q : Int32 → MS → Prop} (hw : wfC S) (h : wX12_stage S x1 Q) : wX12_stage S x1 (fun r u => Q r u ∧ cfr [402] [(45, 0), (45, 3), (45, 5)] S u) := by
  have f : cfr [402] [(45, 0), (45, 3), (45, 5)] S S := cfr.rf
  unfold wX12_stage at h ⊢
  obtain ⟨Q9, h0, h⟩ := h
  refine ⟨_, frX12_soundUnitAt hw h0, ?_⟩
  intro b5 S3 q1_ y2_ y3_ y4_
  replace h := h b5 S3 q1_.1 y2_ y3_ y4_
  replace f := f.tr (q1_.2.mo (by decide) (by decide))
  refine ⟨fun c => ?_, fun c => ?_⟩
  · replace h := h.1 c
    exact ⟨h, f⟩
  · replace h := h.2 c
    intro y5_
    replace h := h y5_
    obtain ⟨Q9, h0, h⟩ := h
    refine ⟨_, frX5_setStage y2_ h0, ?_⟩
    intro S8 q6_ y7_ y8_
    replace h := h S8 q6_.1 y7_ y8_
    replace f := f.tr (q6_.2.mo (by decide) (by decide))
    exact ⟨h, f⟩
set_option maxRecDepth 100000 in
theorem frX12_element {S : MS} {x1 : Int32} {x2 : Int32} {Q : Int32 → MS → Prop} (hw : wfC S) (h : wX12_element S x1 x2 Q) : wX12_element S x1 x2 (fun r u => Q r u ∧ cfr [] [(45, 19)] S u) := by
  have f : cfr [] [(45, 19)] S S := cfr.rf
  unfold wX12_element at h ⊢
  obtain ⟨Q9, h0, h⟩ := h
  refine ⟨_, frX5_elementAt hw h0, ?_⟩
  intro r2 S3 q1_ y2_ y3_
  replace h := h r2 S3 q1_.1 y2_ y3_
  replace f := f.tr (q1_.2.mo (by decide) (by decide))
  exact ⟨h, f⟩
set_option maxRecDepth 100000 in
theorem fr_X1_beginBody_J96 {S0 : MS} {Q : MS → Prop} {k46 k46' : MS → Int32 → Int32 → Int32 → Int32 → Prop} {U96 : MS} {t96_0 : Int32} {t96_1 : Int32} {v96_1 : Int32} {v96_2 : Int32} {v96_4 : Int32} (hk46 : ∀ (u : MS) (z0) (z1) (z2) (z3), cfr [102, 103, 301, 302] [(41, 5), (41, 7)] S0 u → k46 u z0 z1 z2 z3 → k46' u z0 z1 z2 z3) (f : cfr [102, 103, 301, 302] [(41, 5), (41, 7)] S0 U96) (h : w_X1_beginBody_J96 Q k46 U96 t96_0 t96_1 v96_1 v96_2 v96_4) : w_X1_beginBody_J96 (fun u => Q u ∧ cfr [102, 103, 301, 302] [(41, 5), (41, 7)] S0 u) k46' U96 t96_0 t96_1 v96_1 v96_2 v96_4 := by
  unfold w_X1_beginBody_J96 at h ⊢
  intro y1_
  replace h := h y1_
  intro a31 ea31 
  replace h := h a31 ea31 
  intro a32 ea32 
  replace h := h a32 ea32 
  exact hk46 _ _ _ _ _ f h
set_option maxRecDepth 100000 in
theorem fr_X1_beginBody_J84 {S0 : MS} {Q : MS → Prop} {k46 k46' : MS → Int32 → Int32 → Int32 → Int32 → Prop} {U84 : MS} {v84_1 : Int32} {v84_2 : Int32} {v84_3 : Int32} {v84_4 : Int32} {v84_5 : Int32} (hk46 : ∀ (u : MS) (z0) (z1) (z2) (z3), cfr [102, 103, 301, 302] [(41, 5), (41, 7)] S0 u → k46 u z0 z1 z2 z3 → k46' u z0 z1 z2 z3) (f : cfr [102, 103, 301, 302] [(41, 5), (41, 7)] S0 U84) (h : w_X1_beginBody_J84 Q k46 U84 v84_1 v84_2 v84_3 v84_4 v84_5) : w_X1_beginBody_J84 (fun u => Q u ∧ cfr [102, 103, 301, 302] [(41, 5), (41, 7)] S0 u) k46' U84 v84_1 v84_2 v84_3 v84_4 v84_5 := by
  unfold w_X1_beginBody_J84 at h ⊢
  intro y2_
  replace h := h y2_
  refine ⟨fun c => ?_, fun c => ?_⟩
  · replace h := h.1 c
    exact fr_X1_beginBody_J96 hk46 f h
  · replace h := h.2 c
    exact fr_X1_beginBody_J96 hk46 f h
set_option maxRecDepth 100000 in
theorem fr_X1_beginBody_L46 {S0 : MS} {Q : MS → Prop} : ∀ (n : Nat) {U46 : MS} {v46_1 : Int32} {v46_2 : Int32} {v46_3 : Int32} {v46_4 : Int32}, cfr [102, 103, 301, 302] [(41, 5), (41, 7)] S0 U46 → w_X1_beginBody_L46 Q n U46 v46_1 v46_2 v46_3 v46_4 → w_X1_beginBody_L46 (fun u => Q u ∧ cfr [102, 103, 301, 302] [(41, 5), (41, 7)] S0 u) n U46 v46_1 v46_2 v46_3 v46_4 := by
  intro n
  induction n with
  | zero => intro U46 v46_1 v46_2 v46_3 v46_4 f h; unfold w_X1_beginBody_L46 at h; exact h.elim
  | succ n ih =>
    intro U46 v46_1 v46_2 v46_3 v46_4 f h
    unfold w_X1_beginBody_L46 at h ⊢
    intro y3_
    replace h := h y3_
    refine ⟨fun c => ?_, fun c => ?_⟩
    · replace h := h.1 c
      intro S15 eS15 y4_ y5_
      replace h := h S15 eS15 y4_ y5_
      replace f := f.tr (show cfr [102, 103, 301, 302] [(41, 5), (41, 7)] U46 S15 by rw [eS15]; exact cfr.oI y4_ (by decide))
      obtain ⟨Q9, h0, h⟩ := h
      refine ⟨_, frX1_comeTo y5_ h0, ?_⟩
      intro S17 q6_ y7_ y8_
      replace h := h S17 q6_.1 y7_ y8_
      replace f := f.tr (q6_.2.mo (by decide) (by decide))
      exact ⟨h, f⟩
    · replace h := h.2 c
      obtain ⟨Q9, h0, h⟩ := h
      refine ⟨_, frX6_kindAt y3_ h0, ?_⟩
      intro r20 S21 q9_ y10_ y11_
      replace h := h r20 S21 q9_.1 y10_ y11_
      replace f := f.tr (q9_.2.mo (by decide) (by decide))
      refine ⟨h.1, ?_⟩
      replace h := h.2
      intro a26 ea26 
      replace h := h a26 ea26 
      obtain ⟨Q9, h0, h⟩ := h
      refine ⟨_, frX1_setPlace y10_ h0, ?_⟩
      intro S28 q12_ y13_ y14_
      replace h := h S28 q12_.1 y13_ y14_
      replace f := f.tr (q12_.2.mo (by decide) (by decide))
      refine ⟨fun c => ?_, fun c => ?_⟩
      · replace h := h.1 c
        obtain ⟨Q9, h0, h⟩ := h
        refine ⟨_, frX1_setPlace y13_ h0, ?_⟩
        intro S37 q15_ y16_ y17_
        replace h := h S37 q15_.1 y16_ y17_
        replace f := f.tr (q15_.2.mo (by decide) (by decide))
        exact fr_X1_beginBody_J84 (fun _ _ _ _ _ f h => ih f h) f h
      · replace h := h.2 c
        exact fr_X1_beginBody_J84 (fun _ _ _ _ _ f h => ih f h) f h
set_option maxRecDepth 100000 in
theorem fr_X1_beginBody_L2 {S0 : MS} {Q : MS → Prop} : ∀ (n : Nat) {U2 : MS} {v2_1 : Int32}, cfr [102, 103, 301, 302] [(41, 5), (41, 7)] S0 U2 → w_X1_beginBody_L2 Q n U2 v2_1 → w_X1_beginBody_L2 (fun u => Q u ∧ cfr [102, 103, 301, 302] [(41, 5), (41, 7)] S0 u) n U2 v2_1 := by
  intro n
  induction n with
  | zero => intro U2 v2_1 f h; unfold w_X1_beginBody_L2 at h; exact h.elim
  | succ n ih =>
    intro U2 v2_1 f h
    unfold w_X1_beginBody_L2 at h ⊢
    intro y18_
    replace h := h y18_
    refine ⟨fun c => ?_, fun c => ?_⟩
    · replace h := h.1 c
      refine ⟨h.1, ?_⟩
      replace h := h.2
      refine ⟨h.1, ?_⟩
      replace h := h.2
      refine ⟨h.1, ?_⟩
      replace h := h.2
      intro a9 ea9 
      replace h := h a9 ea9 
      obtain ⟨Q9, h0, h⟩ := h
      refine ⟨_, frX6_kindCount y18_ h0, ?_⟩
      intro r11 S12 q19_ y20_ y21_
      replace h := h r11 S12 q19_.1 y20_ y21_
      replace f := f.tr (q19_.2.mo (by decide) (by decide))
      obtain ⟨n9, h⟩ := h
      exact ⟨n9, fr_X1_beginBody_L46 n9 f h⟩
    · replace h := h.2 c
      refine ⟨h.1, ?_⟩
      replace h := h.2
      intro S40 eS40 y22_ y23_
      replace h := h S40 eS40 y22_ y23_
      replace f := f.tr (show cfr [102, 103, 301, 302] [(41, 5), (41, 7)] U2 S40 by rw [eS40]; exact cfr.aI y22_ (by decide))
      intro a41 ea41 
      replace h := h a41 ea41 
      exact ih f h
set_option maxRecDepth 100000 in
theorem frX1_beginBody {S : MS} {Q : MS → Prop} (hw : wfC S) (h : wX1_beginBody S Q) : wX1_beginBody S (fun u => Q u ∧ cfr [102, 103, 301, 302] [(41, 5), (41, 7)] S u) := by
  have f : cfr [102, 103, 301, 302] [(41, 5), (41, 7)] S S := cfr.rf
  unfold wX1_beginBody at h ⊢
  obtain ⟨n9, h⟩ := h
  exact ⟨n9, fr_X1_beginBody_L2 n9 f h⟩
set_option maxRecDepth 100000 in
theorem fr_X1_goThrough_J213 {S0 : MS} {Q : MS → Prop} {U213 : MS} {t213_0 : Int32} {t213_1 : Int32} (f : cfr [103] [(41, 5), (41, 6)] S0 U213) (h : w_X1_goThrough_J213 Q U213 t213_0 t213_1) : w_X1_goThrough_J213 (fun u => Q u ∧ cfr [103] [(41, 5), (41, 6)] S0 u) U213 t213_0 t213_1 := by
  unfold w_X1_goThrough_J213 at h ⊢
  intro y1_ y2_
  replace h := h y1_ y2_
  refine ⟨h.1, ?_⟩
  replace h := h.2
  intro S41 eS41 y3_ y4_
  replace h := h S41 eS41 y3_ y4_
  replace f := f.tr (show cfr [103] [(41, 5), (41, 6)] U213 S41 by rw [eS41]; exact cfr.oI y3_ (by decide))
  exact ⟨h, f⟩
set_option maxRecDepth 100000 in
theorem fr_X1_goThrough_J212 {S0 : MS} {Q : MS → Prop} {U212 : MS} {t212_0 : Int32} (f : cfr [103] [(41, 5), (41, 6)] S0 U212) (h : w_X1_goThrough_J212 Q U212 t212_0) : w_X1_goThrough_J212 (fun u => Q u ∧ cfr [103] [(41, 5), (41, 6)] S0 u) U212 t212_0 := by
  unfold w_X1_goThrough_J212 at h ⊢
  intro y5_
  replace h := h y5_
  exact fr_X1_goThrough_J213 f h
set_option maxRecDepth 100000 in
theorem fr_X1_goThrough_J108 {S0 : MS} {Q : MS → Prop} {U108 : MS} {t108_0 : Int32} {t108_1 : Int32} (f : cfr [103] [(41, 5), (41, 6)] S0 U108) (h : w_X1_goThrough_J108 Q U108 t108_0 t108_1) : w_X1_goThrough_J108 (fun u => Q u ∧ cfr [103] [(41, 5), (41, 6)] S0 u) U108 t108_0 t108_1 := by
  unfold w_X1_goThrough_J108 at h ⊢
  intro y6_ y7_
  replace h := h y6_ y7_
  refine ⟨h.1, ?_⟩
  replace h := h.2
  intro S73 eS73 y8_ y9_
  replace h := h S73 eS73 y8_ y9_
  replace f := f.tr (show cfr [103] [(41, 5), (41, 6)] U108 S73 by rw [eS73]; exact cfr.oI y8_ (by decide))
  exact ⟨h, f⟩
set_option maxRecDepth 100000 in
theorem fr_X1_goThrough_L131 {S0 : MS} {Q : MS → Prop} : ∀ (n : Nat) {U131 : MS} {v131_1 : Int32} {v131_2 : Int32} {v131_3 : Int32} {v131_4 : Int32}, cfr [103] [(41, 5), (41, 6)] S0 U131 → w_X1_goThrough_L131 Q n U131 v131_1 v131_2 v131_3 v131_4 → w_X1_goThrough_L131 (fun u => Q u ∧ cfr [103] [(41, 5), (41, 6)] S0 u) n U131 v131_1 v131_2 v131_3 v131_4 := by
  intro n
  induction n with
  | zero => intro U131 v131_1 v131_2 v131_3 v131_4 f h; unfold w_X1_goThrough_L131 at h; exact h.elim
  | succ n ih =>
    intro U131 v131_1 v131_2 v131_3 v131_4 f h
    unfold w_X1_goThrough_L131 at h ⊢
    intro y10_
    replace h := h y10_
    refine ⟨fun c => ?_, fun c => ?_⟩
    · replace h := h.1 c
      refine ⟨h.1, ?_⟩
      replace h := h.2
      refine ⟨h.1, ?_⟩
      replace h := h.2
      refine ⟨h.1, ?_⟩
      replace h := h.2
      intro a34 ea34 
      replace h := h a34 ea34 
      obtain ⟨Q9, h0, h⟩ := h
      refine ⟨_, frX1_give y10_ h0, ?_⟩
      intro S36 q11_ y12_ y13_
      replace h := h S36 q11_.1 y12_ y13_
      replace f := f.tr (q11_.2.mo (by decide) (by decide))
      refine ⟨fun c => ?_, fun c => ?_⟩
      · replace h := h.1 c
        exact fr_X1_goThrough_J212 f h
      · replace h := h.2 c
        refine ⟨fun c => ?_, fun c => ?_⟩
        · replace h := h.1 c
          exact fr_X1_goThrough_J212 f h
        · replace h := h.2 c
          refine ⟨h.1, ?_⟩
          replace h := h.2
          refine ⟨h.1, ?_⟩
          replace h := h.2
          refine ⟨h.1, ?_⟩
          replace h := h.2
          intro a51 ea51 
          replace h := h a51 ea51 
          refine ⟨fun c => ?_, fun c => ?_⟩
          · replace h := h.1 c
            exact fr_X1_goThrough_J212 f h
          · replace h := h.2 c
            exact fr_X1_goThrough_J213 f h
    · replace h := h.2 c
      obtain ⟨Q9, h0, h⟩ := h
      refine ⟨_, frX1_take y10_ h0, ?_⟩
      intro r55 S56 q14_ y15_ y16_
      replace h := h r55 S56 q14_.1 y15_ y16_
      replace f := f.tr (q14_.2.mo (by decide) (by decide))
      intro a59 ea59 
      replace h := h a59 ea59 
      exact ih f h
set_option maxRecDepth 100000 in
theorem fr_X1_goThrough_J29 {S0 : MS} {Q : MS → Prop} {U29 : MS} {v29_1 : Int32} {v29_2 : Int32} (f : cfr [103] [(41, 5), (41, 6)] S0 U29) (h : w_X1_goThrough_J29 Q U29 v29_1 v29_2) : w_X1_goThrough_J29 (fun u => Q u ∧ cfr [103] [(41, 5), (41, 6)] S0 u) U29 v29_1 v29_2 := by
  unfold w_X1_goThrough_J29 at h ⊢
  intro y17_
  replace h := h y17_
  refine ⟨h.1, ?_⟩
  replace h := h.2
  intro a10 ea10 
  replace h := h a10 ea10 
  refine ⟨fun c => ?_, fun c => ?_⟩
  · replace h := h.1 c
    refine ⟨h.1, ?_⟩
    replace h := h.2
    intro a15 ea15 
    replace h := h a15 ea15 
    refine ⟨fun c => ?_, fun c => ?_⟩
    · replace h := h.1 c
      refine ⟨fun c => ?_, fun c => ?_⟩
      · replace h := h.1 c
        refine ⟨h.1, ?_⟩
        replace h := h.2
        refine ⟨h.1, ?_⟩
        replace h := h.2
        intro a66 ea66 
        replace h := h a66 ea66 
        refine ⟨h.1, ?_⟩
        replace h := h.2
        intro a70 ea70 
        replace h := h a70 ea70 
        refine ⟨fun c => ?_, fun c => ?_⟩
        · replace h := h.1 c
          exact fr_X1_goThrough_J108 f h
        · replace h := h.2 c
          exact fr_X1_goThrough_J108 f h
      · replace h := h.2 c
        refine ⟨h.1, ?_⟩
        replace h := h.2
        refine ⟨h.1, ?_⟩
        replace h := h.2
        refine ⟨h.1, ?_⟩
        replace h := h.2
        intro a25 ea25 
        replace h := h a25 ea25 
        obtain ⟨n9, h⟩ := h
        exact ⟨n9, fr_X1_goThrough_L131 n9 f h⟩
    · replace h := h.2 c
      refine ⟨h.1, ?_⟩
      replace h := h.2
      refine ⟨h.1, ?_⟩
      replace h := h.2
      intro a80 ea80 
      replace h := h a80 ea80 
      obtain ⟨Q9, h0, h⟩ := h
      refine ⟨_, frX1_store y17_ h0, ?_⟩
      intro S82 q18_ y19_ y20_
      replace h := h S82 q18_.1 y19_ y20_
      replace f := f.tr (q18_.2.mo (by decide) (by decide))
      exact ⟨h, f⟩
  · replace h := h.2 c
    refine ⟨h.1, ?_⟩
    replace h := h.2
    refine ⟨h.1, ?_⟩
    replace h := h.2
    intro a89 ea89 
    replace h := h a89 ea89 
    obtain ⟨Q9, h0, h⟩ := h
    refine ⟨_, frX1_load y17_ h0, ?_⟩
    intro S91 q21_ y22_ y23_
    replace h := h S91 q21_.1 y22_ y23_
    replace f := f.tr (q21_.2.mo (by decide) (by decide))
    exact ⟨h, f⟩
set_option maxRecDepth 100000 in
theorem frX1_goThrough {S : MS} {x1 : Int32} {Q : MS → Prop} (hw : wfC S) (h : wX1_goThrough S x1 Q) : wX1_goThrough S x1 (fun u => Q u ∧ cfr [103] [(41, 5), (41, 6)] S u) := by
  have f : cfr [103] [(41, 5), (41, 6)] S S := cfr.rf
  unfold wX1_goThrough at h ⊢
  refine ⟨h.1, ?_⟩
  replace h := h.2
  refine ⟨h.1, ?_⟩
  replace h := h.2
  intro a6 ea6 
  replace h := h a6 ea6 
  refine ⟨fun c => ?_, fun c => ?_⟩
  · replace h := h.1 c
    exact fr_X1_goThrough_J29 f h
  · replace h := h.2 c
    refine ⟨fun c => ?_, fun c => ?_⟩
    · replace h := h.1 c
      exact fr_X1_goThrough_J29 f h
    · replace h := h.2 c
      obtain ⟨Q9, h0, h⟩ := h
      refine ⟨_, frX1_shuffle hw h0, ?_⟩
      intro S96 q24_ y25_ y26_
      replace h := h S96 q24_.1 y25_ y26_
      replace f := f.tr (q24_.2.mo (by decide) (by decide))
      exact ⟨h, f⟩
set_option maxRecDepth 100000 in
theorem fr_X2_headHolds_J89 {S0 : MS} {Q : Int32 → MS → Prop} {U89 : MS} {v89_1 : Int32} (f : cfr [] [(46, 2), (46, 3)] S0 U89) (h : w_X2_headHolds_J89 Q U89 v89_1) : w_X2_headHolds_J89 (fun r u => Q r u ∧ cfr [] [(46, 2), (46, 3)] S0 u) U89 v89_1 := by
  unfold w_X2_headHolds_J89 at h ⊢
  intro y1_
  replace h := h y1_
  obtain ⟨Q9, h0, h⟩ := h
  refine ⟨_, frX7_breaks y1_ h0, ?_⟩
  intro r15 S16 q2_ y3_ y4_
  replace h := h r15 S16 q2_.1 y3_ y4_
  replace f := f.tr (q2_.2.mo (by decide) (by decide))
  exact ⟨h, f⟩
set_option maxRecDepth 100000 in
theorem fr_X2_headHolds_J149 {S0 : MS} {Q : Int32 → MS → Prop} {U149 : MS} {v149_1 : Int32} (f : cfr [] [(46, 2), (46, 3)] S0 U149) (h : w_X2_headHolds_J149 Q U149 v149_1) : w_X2_headHolds_J149 (fun r u => Q r u ∧ cfr [] [(46, 2), (46, 3)] S0 u) U149 v149_1 := by
  unfold w_X2_headHolds_J149 at h ⊢
  intro y5_
  replace h := h y5_
  obtain ⟨Q9, h0, h⟩ := h
  refine ⟨_, frX7_breaks y5_ h0, ?_⟩
  intro r34 S35 q6_ y7_ y8_
  replace h := h r34 S35 q6_.1 y7_ y8_
  replace f := f.tr (q6_.2.mo (by decide) (by decide))
  exact ⟨h, f⟩
set_option maxRecDepth 100000 in
theorem frX2_headHolds {S : MS} {x1 : Int32} {x2 : Int32} {x3 : Int32} {Q : Int32 → MS → Prop} (hw : wfC S) (h : wX2_headHolds S x1 x2 x3 Q) : wX2_headHolds S x1 x2 x3 (fun r u => Q r u ∧ cfr [] [(46, 2), (46, 3)] S u) := by
  have f : cfr [] [(46, 2), (46, 3)] S S := cfr.rf
  unfold wX2_headHolds at h ⊢
  refine ⟨fun c => ?_, fun c => ?_⟩
  · replace h := h.1 c
    refine ⟨h.1, ?_⟩
    replace h := h.2
    refine ⟨fun c => ?_, fun c => ?_⟩
    · replace h := h.1 c
      refine ⟨fun c => ?_, fun c => ?_⟩
      · replace h := h.1 c
        refine ⟨h.1, ?_⟩
        replace h := h.2
        refine ⟨fun c => ?_, fun c => ?_⟩
        · replace h := h.1 c
          exact fr_X2_headHolds_J89 f h
        · replace h := h.2 c
          refine ⟨h.1, ?_⟩
          replace h := h.2
          refine ⟨fun c => ?_, fun c => ?_⟩
          · replace h := h.1 c
            refine ⟨fun c => ?_, fun c => ?_⟩
            · replace h := h.1 c
              refine ⟨h.1, ?_⟩
              replace h := h.2
              intro a30 ea30 
              replace h := h a30 ea30 
              refine ⟨fun c => ?_, fun c => ?_⟩
              · replace h := h.1 c
                exact fr_X2_headHolds_J149 f h
              · replace h := h.2 c
                refine ⟨fun c => ?_, fun c => ?_⟩
                · replace h := h.1 c
                  obtain ⟨Q9, h0, h⟩ := h
                  refine ⟨_, frX2_catchesHold hw h0, ?_⟩
                  intro r43 S44 q9_ y10_ y11_
                  replace h := h r43 S44 q9_.1 y10_ y11_
                  replace f := f.tr (q9_.2.mo (by decide) (by decide))
                  exact ⟨h, f⟩
                · replace h := h.2 c
                  exact fr_X2_headHolds_J149 f h
            · replace h := h.2 c
              obtain ⟨Q9, h0, h⟩ := h
              refine ⟨_, frX7_breaks hw h0, ?_⟩
              intro r47 S48 q12_ y13_ y14_
              replace h := h r47 S48 q12_.1 y13_ y14_
              replace f := f.tr (q12_.2.mo (by decide) (by decide))
              exact ⟨h, f⟩
          · replace h := h.2 c
            exact fr_X2_headHolds_J89 f h
      · replace h := h.2 c
        obtain ⟨Q9, h0, h⟩ := h
        refine ⟨_, frX7_breaks hw h0, ?_⟩
        intro r51 S52 q15_ y16_ y17_
        replace h := h r51 S52 q15_.1 y16_ y17_
        replace f := f.tr (q15_.2.mo (by decide) (by decide))
        exact ⟨h, f⟩
    · replace h := h.2 c
      obtain ⟨Q9, h0, h⟩ := h
      refine ⟨_, frX7_breaks hw h0, ?_⟩
      intro r55 S56 q18_ y19_ y20_
      replace h := h r55 S56 q18_.1 y19_ y20_
      replace f := f.tr (q18_.2.mo (by decide) (by decide))
      exact ⟨h, f⟩
  · replace h := h.2 c
    obtain ⟨Q9, h0, h⟩ := h
    refine ⟨_, frX7_breaks hw h0, ?_⟩
    intro r59 S60 q21_ y22_ y23_
    replace h := h r59 S60 q21_.1 y22_ y23_
    replace f := f.tr (q21_.2.mo (by decide) (by decide))
    exact ⟨h, f⟩
set_option maxRecDepth 100000 in
theorem fr_X2_lengthAt_J110 {S0 : MS} {Q : Int32 → MS → Prop} {U110 : MS} {v110_1 : Int32} {v110_2 : Int32} (f : cfr [] [] S0 U110) (h : w_X2_lengthAt_J110 Q U110 v110_1 v110_2) : w_X2_lengthAt_J110 (fun r u => Q r u ∧ cfr [] [] S0 u) U110 v110_1 v110_2 := by
  unfold w_X2_lengthAt_J110 at h ⊢
  intro y1_
  replace h := h y1_
  refine ⟨fun c => ?_, fun c => ?_⟩
  · replace h := h.1 c
    exact ⟨h, f⟩
  · replace h := h.2 c
    exact ⟨h, f⟩
set_option maxRecDepth 100000 in
theorem fr_X2_lengthAt_J97 {S0 : MS} {Q : Int32 → MS → Prop} {U97 : MS} {t97_0 : Int32} {v97_1 : Int32} (f : cfr [] [] S0 U97) (h : w_X2_lengthAt_J97 Q U97 t97_0 v97_1) : w_X2_lengthAt_J97 (fun r u => Q r u ∧ cfr [] [] S0 u) U97 t97_0 v97_1 := by
  unfold w_X2_lengthAt_J97 at h ⊢
  intro y2_
  replace h := h y2_
  exact fr_X2_lengthAt_J110 f h
set_option maxRecDepth 100000 in
theorem frX2_lengthAt {S : MS} {x1 : Int32} {Q : Int32 → MS → Prop} (hw : wfC S) (h : wX2_lengthAt S x1 Q) : wX2_lengthAt S x1 (fun r u => Q r u ∧ cfr [] [] S u) := by
  have f : cfr [] [] S S := cfr.rf
  unfold wX2_lengthAt at h ⊢
  refine ⟨h.1, ?_⟩
  replace h := h.2
  intro a4 ea4 
  replace h := h a4 ea4 
  refine ⟨fun c => ?_, fun c => ?_⟩
  · replace h := h.1 c
    refine ⟨h.1, ?_⟩
    replace h := h.2
    intro a10 ea10 
    replace h := h a10 ea10 
    exact fr_X2_lengthAt_J110 f h
  · replace h := h.2 c
    refine ⟨fun c => ?_, fun c => ?_⟩
    · replace h := h.1 c
      obtain ⟨Q9, h0, h⟩ := h
      refine ⟨_, frX2_lookupLength hw h0, ?_⟩
      intro r12 S13 q3_ y4_ y5_
      replace h := h r12 S13 q3_.1 y4_ y5_
      replace f := f.tr (q3_.2.mo (by decide) (by decide))
      exact fr_X2_lengthAt_J110 f h
    · replace h := h.2 c
      refine ⟨fun c => ?_, fun c => ?_⟩
      · replace h := h.1 c
        refine ⟨h.1, ?_⟩
        replace h := h.2
        intro a19 ea19 
        replace h := h a19 ea19 
        refine ⟨fun c => ?_, fun c => ?_⟩
        · replace h := h.1 c
          exact fr_X2_lengthAt_J97 f h
        · replace h := h.2 c
          exact fr_X2_lengthAt_J97 f h
      · replace h := h.2 c
        refine ⟨fun c => ?_, fun c => ?_⟩
        · replace h := h.1 c
          refine ⟨h.1, ?_⟩
          replace h := h.2
          intro a25 ea25 
          replace h := h a25 ea25 
          refine ⟨h.1, ?_⟩
          replace h := h.2
          intro a29 ea29 
          replace h := h a29 ea29 
          exact fr_X2_lengthAt_J110 f h
        · replace h := h.2 c
          refine ⟨h.1, ?_⟩
          replace h := h.2
          intro a33 ea33 
          replace h := h a33 ea33 
          refine ⟨h.1, ?_⟩
          replace h := h.2
          intro a37 ea37 
          replace h := h a37 ea37 
          exact fr_X2_lengthAt_J110 f h
set_option maxRecDepth 100000 in
theorem fr_X2_decode_J57 {S0 : MS} {Q : MS → Prop} {U57 : MS} {v57_2 : Int32} (f : cfr [] [(42, 9), (42, 10), (42, 11)] S0 U57) (h : w_X2_decode_J57 Q U57 v57_2) : w_X2_decode_J57 (fun u => Q u ∧ cfr [] [(42, 9), (42, 10), (42, 11)] S0 u) U57 v57_2 := by
  unfold w_X2_decode_J57 at h ⊢
  intro y1_
  replace h := h y1_
  obtain ⟨Q9, h0, h⟩ := h
  refine ⟨_, frX2_set y1_ h0, ?_⟩
  intro S10 q2_ y3_ y4_
  replace h := h S10 q2_.1 y3_ y4_
  replace f := f.tr (q2_.2.mo (by decide) (by decide))
  exact ⟨h, f⟩
set_option maxRecDepth 100000 in
theorem fr_X2_decode_J247 {S0 : MS} {Q : MS → Prop} {U247 : MS} {v247_1 : Int32} (f : cfr [] [(42, 9), (42, 10), (42, 11)] S0 U247) (h : w_X2_decode_J247 Q U247 v247_1) : w_X2_decode_J247 (fun u => Q u ∧ cfr [] [(42, 9), (42, 10), (42, 11)] S0 u) U247 v247_1 := by
  unfold w_X2_decode_J247 at h ⊢
  intro y5_
  replace h := h y5_
  obtain ⟨Q9, h0, h⟩ := h
  refine ⟨_, frX2_decodeLocal y5_ h0, ?_⟩
  intro S30 q6_ y7_ y8_
  replace h := h S30 q6_.1 y7_ y8_
  replace f := f.tr (q6_.2.mo (by decide) (by decide))
  exact ⟨h, f⟩
set_option maxRecDepth 100000 in
theorem fr_X2_decode_J45 {S0 : MS} {Q : MS → Prop} {U45 : MS} {v45_1 : Int32} {v45_2 : Int32} (f : cfr [] [(42, 9), (42, 10), (42, 11)] S0 U45) (h : w_X2_decode_J45 Q U45 v45_1 v45_2) : w_X2_decode_J45 (fun u => Q u ∧ cfr [] [(42, 9), (42, 10), (42, 11)] S0 u) U45 v45_1 v45_2 := by
  unfold w_X2_decode_J45 at h ⊢
  intro y9_
  replace h := h y9_
  refine ⟨fun c => ?_, fun c => ?_⟩
  · replace h := h.1 c
    exact fr_X2_decode_J57 f h
  · replace h := h.2 c
    refine ⟨fun c => ?_, fun c => ?_⟩
    · replace h := h.1 c
      exact fr_X2_decode_J57 f h
    · replace h := h.2 c
      refine ⟨fun c => ?_, fun c => ?_⟩
      · replace h := h.1 c
        refine ⟨h.1, ?_⟩
        replace h := h.2
        obtain ⟨Q9, h0, h⟩ := h
        refine ⟨_, frX2_set y9_ h0, ?_⟩
        intro S82 q10_ y11_ y12_
        replace h := h S82 q10_.1 y11_ y12_
        replace f := f.tr (q10_.2.mo (by decide) (by decide))
        exact ⟨h, f⟩
      · replace h := h.2 c
        refine ⟨fun c => ?_, fun c => ?_⟩
        · replace h := h.1 c
          refine ⟨h.1, ?_⟩
          replace h := h.2
          obtain ⟨Q9, h0, h⟩ := h
          refine ⟨_, frX2_set y9_ h0, ?_⟩
          intro S75 q13_ y14_ y15_
          replace h := h S75 q13_.1 y14_ y15_
          replace f := f.tr (q13_.2.mo (by decide) (by decide))
          exact ⟨h, f⟩
        · replace h := h.2 c
          refine ⟨fun c => ?_, fun c => ?_⟩
          · replace h := h.1 c
            refine ⟨h.1, ?_⟩
            replace h := h.2
            obtain ⟨Q9, h0, h⟩ := h
            refine ⟨_, frX2_set y9_ h0, ?_⟩
            intro S68 q16_ y17_ y18_
            replace h := h S68 q16_.1 y17_ y18_
            replace f := f.tr (q16_.2.mo (by decide) (by decide))
            exact ⟨h, f⟩
          · replace h := h.2 c
            refine ⟨fun c => ?_, fun c => ?_⟩
            · replace h := h.1 c
              refine ⟨h.1, ?_⟩
              replace h := h.2
              obtain ⟨Q9, h0, h⟩ := h
              refine ⟨_, frX2_set y9_ h0, ?_⟩
              intro S61 q19_ y20_ y21_
              replace h := h S61 q19_.1 y20_ y21_
              replace f := f.tr (q19_.2.mo (by decide) (by decide))
              exact ⟨h, f⟩
            · replace h := h.2 c
              refine ⟨h.1, ?_⟩
              replace h := h.2
              refine ⟨fun c => ?_, fun c => ?_⟩
              · replace h := h.1 c
                refine ⟨h.1, ?_⟩
                replace h := h.2
                refine ⟨fun c => ?_, fun c => ?_⟩
                · replace h := h.1 c
                  refine ⟨h.1, ?_⟩
                  replace h := h.2
                  refine ⟨fun c => ?_, fun c => ?_⟩
                  · replace h := h.1 c
                    refine ⟨fun c => ?_, fun c => ?_⟩
                    · replace h := h.1 c
                      exact fr_X2_decode_J247 f h
                    · replace h := h.2 c
                      refine ⟨h.1, ?_⟩
                      replace h := h.2
                      obtain ⟨Q9, h0, h⟩ := h
                      refine ⟨_, frX2_set y9_ h0, ?_⟩
                      intro S39 q22_ y23_ y24_
                      replace h := h S39 q22_.1 y23_ y24_
                      replace f := f.tr (q22_.2.mo (by decide) (by decide))
                      exact ⟨h, f⟩
                  · replace h := h.2 c
                    exact fr_X2_decode_J247 f h
                · replace h := h.2 c
                  refine ⟨h.1, ?_⟩
                  replace h := h.2
                  obtain ⟨Q9, h0, h⟩ := h
                  refine ⟨_, frX2_set y9_ h0, ?_⟩
                  intro S45 q25_ y26_ y27_
                  replace h := h S45 q25_.1 y26_ y27_
                  replace f := f.tr (q25_.2.mo (by decide) (by decide))
                  exact ⟨h, f⟩
              · replace h := h.2 c
                refine ⟨h.1, ?_⟩
                replace h := h.2
                obtain ⟨Q9, h0, h⟩ := h
                refine ⟨_, frX2_set y9_ h0, ?_⟩
                intro S53 q28_ y29_ y30_
                replace h := h S53 q28_.1 y29_ y30_
                replace f := f.tr (q28_.2.mo (by decide) (by decide))
                exact ⟨h, f⟩
set_option maxRecDepth 100000 in
theorem frX2_decode {S : MS} {x1 : Int32} {Q : MS → Prop} (hw : wfC S) (h : wX2_decode S x1 Q) : wX2_decode S x1 (fun u => Q u ∧ cfr [] [(42, 9), (42, 10), (42, 11)] S u) := by
  have f : cfr [] [(42, 9), (42, 10), (42, 11)] S S := cfr.rf
  unfold wX2_decode at h ⊢
  refine ⟨h.1, ?_⟩
  replace h := h.2
  intro a4 ea4 
  replace h := h a4 ea4 
  intro S5 eS5 y31_ y32_
  replace h := h S5 eS5 y31_ y32_
  replace f := f.tr (show cfr [] [(42, 9), (42, 10), (42, 11)] S S5 by rw [eS5]; exact cfr.oI y31_ (by decide))
  intro S6 eS6 y33_ y34_
  replace h := h S6 eS6 y33_ y34_
  replace f := f.tr (show cfr [] [(42, 9), (42, 10), (42, 11)] S5 S6 by rw [eS6]; exact cfr.oI y33_ (by decide))
  intro S7 eS7 y35_ y36_
  replace h := h S7 eS7 y35_ y36_
  replace f := f.tr (show cfr [] [(42, 9), (42, 10), (42, 11)] S6 S7 by rw [eS7]; exact cfr.oJ y35_ (by decide))
  refine ⟨fun c => ?_, fun c => ?_⟩
  · replace h := h.1 c
    exact fr_X2_decode_J45 f h
  · replace h := h.2 c
    refine ⟨fun c => ?_, fun c => ?_⟩
    · replace h := h.1 c
      exact fr_X2_decode_J45 f h
    · replace h := h.2 c
      obtain ⟨Q9, h0, h⟩ := h
      refine ⟨_, frX2_set y36_ h0, ?_⟩
      intro S88 q37_ y38_ y39_
      replace h := h S88 q37_.1 y38_ y39_
      replace f := f.tr (q37_.2.mo (by decide) (by decide))
      exact ⟨h, f⟩
set_option maxRecDepth 100000 in
theorem fr_X2_numberInstructions_J67 {S0 : MS} {Q : MS → Prop} {U67 : MS} (f : cfr [201] [(42, 8)] S0 U67) (h : w_X2_numberInstructions_J67 Q U67) : w_X2_numberInstructions_J67 (fun u => Q u ∧ cfr [201] [(42, 8)] S0 u) U67 := by
  unfold w_X2_numberInstructions_J67 at h ⊢
  intro y1_
  replace h := h y1_
  refine ⟨fun c => ?_, fun c => ?_⟩
  · replace h := h.1 c
    exact ⟨h, f⟩
  · replace h := h.2 c
    refine ⟨fun c => ?_, fun c => ?_⟩
    · replace h := h.1 c
      exact ⟨h, f⟩
    · replace h := h.2 c
      refine ⟨h.1, ?_⟩
      replace h := h.2
      intro S8 eS8 y2_ y3_
      replace h := h S8 eS8 y2_ y3_
      replace f := f.tr (show cfr [201] [(42, 8)] U67 S8 by rw [eS8]; exact cfr.aI y2_ (by decide))
      exact ⟨h, f⟩
set_option maxRecDepth 100000 in
theorem fr_X2_numberInstructions_L15 {S0 : MS} {Q : MS → Prop} : ∀ (n : Nat) {U15 : MS} {v15_1 : Int32}, cfr [201] [(42, 8)] S0 U15 → w_X2_numberInstructions_L15 Q n U15 v15_1 → w_X2_numberInstructions_L15 (fun u => Q u ∧ cfr [201] [(42, 8)] S0 u) n U15 v15_1 := by
  intro n
  induction n with
  | zero => intro U15 v15_1 f h; unfold w_X2_numberInstructions_L15 at h; exact h.elim
  | succ n ih =>
    intro U15 v15_1 f h
    unfold w_X2_numberInstructions_L15 at h ⊢
    intro y4_
    replace h := h y4_
    refine ⟨fun c => ?_, fun c => ?_⟩
    · replace h := h.1 c
      exact fr_X2_numberInstructions_J67 f h
    · replace h := h.2 c
      refine ⟨fun c => ?_, fun c => ?_⟩
      · replace h := h.1 c
        exact fr_X2_numberInstructions_J67 f h
      · replace h := h.2 c
        refine ⟨h.1, ?_⟩
        replace h := h.2
        intro S12 eS12 y5_ y6_
        replace h := h S12 eS12 y5_ y6_
        replace f := f.tr (show cfr [201] [(42, 8)] U15 S12 by rw [eS12]; exact cfr.aI y5_ (by decide))
        intro S14 eS14 y7_ y8_
        replace h := h S14 eS14 y7_ y8_
        replace f := f.tr (show cfr [201] [(42, 8)] S12 S14 by rw [eS14]; exact cfr.oI y7_ (by decide))
        obtain ⟨Q9, h0, h⟩ := h
        refine ⟨_, frX2_lengthAt y8_ h0, ?_⟩
        intro r16 S17 q9_ y10_ y11_
        replace h := h r16 S17 q9_.1 y10_ y11_
        replace f := f.tr (q9_.2.mo (by decide) (by decide))
        intro a21 ea21 
        replace h := h a21 ea21 
        exact ih f h
set_option maxRecDepth 100000 in
theorem frX2_numberInstructions {S : MS} {Q : MS → Prop} (hw : wfC S) (h : wX2_numberInstructions S Q) : wX2_numberInstructions S (fun u => Q u ∧ cfr [201] [(42, 8)] S u) := by
  have f : cfr [201] [(42, 8)] S S := cfr.rf
  unfold wX2_numberInstructions at h ⊢
  intro y12_
  replace h := h y12_
  obtain ⟨Q9, h0, h⟩ := h
  refine ⟨_, frJ7_fill_53178 y12_ (by decide) h0, ?_⟩
  intro S2 q13_ y14_ y15_
  replace h := h S2 q13_.1 y14_ y15_
  replace f := f.tr (q13_.2.mo (by decide) (by decide))
  intro S4 eS4 y16_ y17_
  replace h := h S4 eS4 y16_ y17_
  replace f := f.tr (show cfr [201] [(42, 8)] S2 S4 by rw [eS4]; exact cfr.oI y16_ (by decide))
  obtain ⟨n9, h⟩ := h
  exact ⟨n9, fr_X2_numberInstructions_L15 n9 f h⟩
set_option maxRecDepth 100000 in
theorem fr_X2_pointsWell_J172 {S0 : MS} {Q : Int32 → MS → Prop} {U172 : MS} (f : cfr [] [] S0 U172) (h : w_X2_pointsWell_J172 Q U172) : w_X2_pointsWell_J172 (fun r u => Q r u ∧ cfr [] [] S0 u) U172 := by
  unfold w_X2_pointsWell_J172 at h ⊢
  intro y1_
  replace h := h y1_
  obtain ⟨Q9, h0, h⟩ := h
  refine ⟨_, frX2_memberOf y1_ h0, ?_⟩
  intro r14 S15 q2_ y3_ y4_
  replace h := h r14 S15 q2_.1 y3_ y4_
  replace f := f.tr (q2_.2.mo (by decide) (by decide))
  refine ⟨fun c => ?_, fun c => ?_⟩
  · replace h := h.1 c
    exact ⟨h, f⟩
  · replace h := h.2 c
    exact ⟨h, f⟩
set_option maxRecDepth 100000 in
theorem frX2_pointsWell {S : MS} {Q : Int32 → MS → Prop} (hw : wfC S) (h : wX2_pointsWell S Q) : wX2_pointsWell S (fun r u => Q r u ∧ cfr [] [] S u) := by
  have f : cfr [] [] S S := cfr.rf
  unfold wX2_pointsWell at h ⊢
  refine ⟨h.1, ?_⟩
  replace h := h.2
  refine ⟨fun c => ?_, fun c => ?_⟩
  · replace h := h.1 c
    refine ⟨h.1, ?_⟩
    replace h := h.2
    refine ⟨fun c => ?_, fun c => ?_⟩
    · replace h := h.1 c
      refine ⟨h.1, ?_⟩
      replace h := h.2
      refine ⟨fun c => ?_, fun c => ?_⟩
      · replace h := h.1 c
        refine ⟨fun c => ?_, fun c => ?_⟩
        · replace h := h.1 c
          refine ⟨h.1, ?_⟩
          replace h := h.2
          refine ⟨fun c => ?_, fun c => ?_⟩
          · replace h := h.1 c
            exact ⟨h, f⟩
          · replace h := h.2 c
            exact ⟨h, f⟩
        · replace h := h.2 c
          refine ⟨fun c => ?_, fun c => ?_⟩
          · replace h := h.1 c
            refine ⟨h.1, ?_⟩
            replace h := h.2
            refine ⟨fun c => ?_, fun c => ?_⟩
            · replace h := h.1 c
              exact ⟨h, f⟩
            · replace h := h.2 c
              exact ⟨h, f⟩
          · replace h := h.2 c
            refine ⟨fun c => ?_, fun c => ?_⟩
            · replace h := h.1 c
              exact fr_X2_pointsWell_J172 f h
            · replace h := h.2 c
              refine ⟨fun c => ?_, fun c => ?_⟩
              · replace h := h.1 c
                exact fr_X2_pointsWell_J172 f h
              · replace h := h.2 c
                refine ⟨fun c => ?_, fun c => ?_⟩
                · replace h := h.1 c
                  obtain ⟨Q9, h0, h⟩ := h
                  refine ⟨_, frX2_memberOf hw h0, ?_⟩
                  intro r27 S28 q5_ y6_ y7_
                  replace h := h r27 S28 q5_.1 y6_ y7_
                  replace f := f.tr (q5_.2.mo (by decide) (by decide))
                  refine ⟨fun c => ?_, fun c => ?_⟩
                  · replace h := h.1 c
                    exact ⟨h, f⟩
                  · replace h := h.2 c
                    exact ⟨h, f⟩
                · replace h := h.2 c
                  exact ⟨h, f⟩
      · replace h := h.2 c
        refine ⟨h.1, ?_⟩
        replace h := h.2
        refine ⟨fun c => ?_, fun c => ?_⟩
        · replace h := h.1 c
          exact ⟨h, f⟩
        · replace h := h.2 c
          exact ⟨h, f⟩
    · replace h := h.2 c
      obtain ⟨Q9, h0, h⟩ := h
      refine ⟨_, frX2_targetsHold hw h0, ?_⟩
      intro r38 S39 q8_ y9_ y10_
      replace h := h r38 S39 q8_.1 y9_ y10_
      replace f := f.tr (q8_.2.mo (by decide) (by decide))
      exact ⟨h, f⟩
  · replace h := h.2 c
    refine ⟨h.1, ?_⟩
    replace h := h.2
    exact ⟨h, f⟩
