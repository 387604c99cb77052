set_option maxRecDepth 100000 in
theorem sg_X8_isCaught_L2 {B : Nat × Nat} : ∀ (n : Nat) {U2 : MS} {v2_0 : Nat} {v2_1 : Int32} {v2_2 : Int32}, ShC B U2 → 0 ≤ v2_2.toInt → 2147483648 - v2_2.toInt < n → w_X8_isCaught_L2 (fun _ u => ShC B u ∧ (True)) n U2 v2_0 v2_1 v2_2 := by
  intro n
  induction n with
  | zero => intro U2 v2_0 v2_1 v2_2 g j0_ hm_; exfalso; have := rgI v2_1; have := rgI v2_2; omega
  | succ n ih2 =>
    intro U2 v2_0 v2_1 v2_2 g j0_ hm_
    unfold w_X8_isCaught_L2
    intro y1_ y2_
    refine ⟨fun c0_ => ?_, fun c0_ => ?_⟩
    · exact ⟨g, trivial⟩
    · refine ⟨?_, ?_⟩
      · exact (dd_X8_catchHas y1_ g y2_)
      refine ⟨fun c1_ => ?_, fun c1_ => ?_⟩
      · intro a6_2 ea6_2 
        have ga6_2 := congrArg Int32.toInt ea6_2
        refine ih2 g ?_ ?_
        · have s3_ := (g.row y2_).2
          have n1_ := rgI a6_2
          have n2_ := rgI v2_2
          have n3_ := rgI (qI U2 v2_0 9)
          have n4_ := rgI (fX8_catchHas U2 v2_0 v2_2 v2_1)
          have n6_ := lo_1k
          have n6_ := t_addD (a := v2_2) (b := Int32.ofInt 1)
          have n7_ := rgI (v2_2 + Int32.ofInt 1)
          omega
        · have s4_ := (g.row y2_).2
          have n1_ := rgI a6_2
          have n2_ := rgI v2_2
          have n3_ := rgI (qI U2 v2_0 9)
          have n4_ := rgI (fX8_catchHas U2 v2_0 v2_2 v2_1)
          have n6_ := lo_1k
          have n6_ := t_addD (a := v2_2) (b := Int32.ofInt 1)
          have n7_ := rgI (v2_2 + Int32.ofInt 1)
          omega
      · exact ⟨g, trivial⟩
set_option maxRecDepth 100000 in
theorem sgX8_isCaught {B : Nat × Nat} {S : MS} {p0 : Nat} {x1 : Int32} (hw : wfC S) (g : ShC B S) (k_p0 : qT S p0 = 47) : wX8_isCaught S p0 x1 (fun _ u => ShC B u ∧ (True)) := by
  unfold wX8_isCaught
  refine ⟨(2147483648 - (0 : Int32).toInt).toNat + 1, ?_⟩
  refine sg_X8_isCaught_L2  _ g ?_ ?_
  · have s5_ := (g.row k_p0).2
    have n1_ := li_0k
    omega
  · have s6_ := (g.row k_p0).2
    have n1_ := li_0k
    omega
