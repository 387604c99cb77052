/-! the fresh state has the invariant (laid by gz2.py) -/
section ZFA
variable {S u : MS}
theorem zf_wfC (w : wfCZ u) (h : StC 80 0 0 3745 u) : wfC u := by
  have F : ∀ q ∈ finC, q.1 < 80 ∧ q.2.2.1 < 80 ∧ lkR RFc q.1 q.2.1 = some q.2.2.1 ∧ TFc.getD q.2.2.1 0 = q.2.2.2.1 ∧ NFc.getD q.2.2.1 0 = q.2.2.2.2 := by decide +kernel
  have P : ∀ p ∈ ptrC, p.1 < 80 ∧ lkR RFc p.1 p.2 ≠ none := by decide +kernel
  obtain ⟨a1, _, a3, a4, a5, a6, a7, a8, a9, a10, a11, _⟩ := w
  refine ⟨a1, fun q hq => ⟨h.R (F q hq).1 (F q hq).2.2.1, h.T (F q hq).2.1 (F q hq).2.2.2.1, h.N (F q hq).2.1 (F q hq).2.2.2.2⟩, a3, a4, a5, a6, a7, a8, a9, a10, a11, fun p hp => ?_⟩
  rw [(h.2.2.2.1 p.1 p.2 (P p hp).1).1]
  exact (P p hp).2
theorem zf_CI (w : wfC u) (h : StC 80 0 0 3745 u) : CI u := by
  have r_67_0 : qR u 67 0 = some 68 := h.R (by decide) (by decide +kernel)
  have o_67_0 : qO u 67 0 = 68 := qO_of r_67_0
  have r_67_1 : qR u 67 1 = some 69 := h.R (by decide) (by decide +kernel)
  have o_67_1 : qO u 67 1 = 69 := qO_of r_67_1
  have r_67_3 : qR u 67 3 = some 70 := h.R (by decide) (by decide +kernel)
  have o_67_3 : qO u 67 3 = 70 := qO_of r_67_3
  have r_67_5 : qR u 67 5 = some 71 := h.R (by decide) (by decide +kernel)
  have o_67_5 : qO u 67 5 = 71 := qO_of r_67_5
  have r_67_6 : qR u 67 6 = some 72 := h.R (by decide) (by decide +kernel)
  have o_67_6 : qO u 67 6 = 72 := qO_of r_67_6
  have r_67_7 : qR u 67 7 = some 73 := h.R (by decide) (by decide +kernel)
  have o_67_7 : qO u 67 7 = 73 := qO_of r_67_7
  have r_67_8 : qR u 67 8 = some 74 := h.R (by decide) (by decide +kernel)
  have o_67_8 : qO u 67 8 = 74 := qO_of r_67_8
  have r_17_0 : qR u 17 0 = some 18 := h.R (by decide) (by decide +kernel)
  have o_17_0 : qO u 17 0 = 18 := qO_of r_17_0
  have r_17_1 : qR u 17 1 = some 19 := h.R (by decide) (by decide +kernel)
  have o_17_1 : qO u 17 1 = 19 := qO_of r_17_1
  have r_17_2 : qR u 17 2 = some 20 := h.R (by decide) (by decide +kernel)
  have o_17_2 : qO u 17 2 = 20 := qO_of r_17_2
  have r_38_0 : qR u 38 0 = some 39 := h.R (by decide) (by decide +kernel)
  have o_38_0 : qO u 38 0 = 39 := qO_of r_38_0
  have r_38_1 : qR u 38 1 = some 40 := h.R (by decide) (by decide +kernel)
  have o_38_1 : qO u 38 1 = 40 := qO_of r_38_1
  have r_38_2 : qR u 38 2 = some 41 := h.R (by decide) (by decide +kernel)
  have o_38_2 : qO u 38 2 = 41 := qO_of r_38_2
  have r_16_1 : qR u 16 1 = some 21 := h.R (by decide) (by decide +kernel)
  have o_16_1 : qO u 16 1 = 21 := qO_of r_16_1
  have r_16_2 : qR u 16 2 = some 22 := h.R (by decide) (by decide +kernel)
  have o_16_2 : qO u 16 2 = 22 := qO_of r_16_2
  have r_16_3 : qR u 16 3 = some 23 := h.R (by decide) (by decide +kernel)
  have o_16_3 : qO u 16 3 = 23 := qO_of r_16_3
  have r_25_16 : qR u 25 16 = some 42 := h.R (by decide) (by decide +kernel)
  have o_25_16 : qO u 25 16 = 42 := qO_of r_25_16
  have r_25_17 : qR u 25 17 = some 43 := h.R (by decide) (by decide +kernel)
  have o_25_17 : qO u 25 17 = 43 := qO_of r_25_17
  have r_66_0 : qR u 66 0 = some 67 := h.R (by decide) (by decide +kernel)
  have o_66_0 : qO u 66 0 = 67 := qO_of r_66_0
  have r_66_2 : qR u 66 2 = some 76 := h.R (by decide) (by decide +kernel)
  have o_66_2 : qO u 66 2 = 76 := qO_of r_66_2
  have r_66_3 : qR u 66 3 = some 77 := h.R (by decide) (by decide +kernel)
  have o_66_3 : qO u 66 3 = 77 := qO_of r_66_3
  have r_66_4 : qR u 66 4 = some 78 := h.R (by decide) (by decide +kernel)
  have o_66_4 : qO u 66 4 = 78 := qO_of r_66_4
  have r_66_5 : qR u 66 5 = some 79 := h.R (by decide) (by decide +kernel)
  have o_66_5 : qO u 66 5 = 79 := qO_of r_66_5
  have r_1_0 : qR u 1 0 = some 2 := h.R (by decide) (by decide +kernel)
  have o_1_0 : qO u 1 0 = 2 := qO_of r_1_0
  have r_3_0 : qR u 3 0 = some 4 := h.R (by decide) (by decide +kernel)
  have o_3_0 : qO u 3 0 = 4 := qO_of r_3_0
  have r_5_0 : qR u 5 0 = some 6 := h.R (by decide) (by decide +kernel)
  have o_5_0 : qO u 5 0 = 6 := qO_of r_5_0
  have r_26_0 : qR u 26 0 = some 27 := h.R (by decide) (by decide +kernel)
  have o_26_0 : qO u 26 0 = 27 := qO_of r_26_0
  have r_28_0 : qR u 28 0 = some 29 := h.R (by decide) (by decide +kernel)
  have o_28_0 : qO u 28 0 = 29 := qO_of r_28_0
  have r_30_0 : qR u 30 0 = some 31 := h.R (by decide) (by decide +kernel)
  have o_30_0 : qO u 30 0 = 31 := qO_of r_30_0
  have r_44_2 : qR u 44 2 = some 46 := h.R (by decide) (by decide +kernel)
  have o_44_2 : qO u 44 2 = 46 := qO_of r_44_2
  have r_44_4 : qR u 44 4 = some 47 := h.R (by decide) (by decide +kernel)
  have o_44_4 : qO u 44 4 = 47 := qO_of r_44_4
  have r_44_8 : qR u 44 8 = some 49 := h.R (by decide) (by decide +kernel)
  have o_44_8 : qO u 44 8 = 49 := qO_of r_44_8
  have r_44_9 : qR u 44 9 = some 50 := h.R (by decide) (by decide +kernel)
  have o_44_9 : qO u 44 9 = 50 := qO_of r_44_9
  have r_52_2 : qR u 52 2 = some 53 := h.R (by decide) (by decide +kernel)
  have o_52_2 : qO u 52 2 = 53 := qO_of r_52_2
  have r_52_3 : qR u 52 3 = some 54 := h.R (by decide) (by decide +kernel)
  have o_52_3 : qO u 52 3 = 54 := qO_of r_52_3
  have r_52_4 : qR u 52 4 = some 55 := h.R (by decide) (by decide +kernel)
  have o_52_4 : qO u 52 4 = 55 := qO_of r_52_4
  have r_52_5 : qR u 52 5 = some 56 := h.R (by decide) (by decide +kernel)
  have o_52_5 : qO u 52 5 = 56 := qO_of r_52_5
  have r_52_6 : qR u 52 6 = some 57 := h.R (by decide) (by decide +kernel)
  have o_52_6 : qO u 52 6 = 57 := qO_of r_52_6
  have r_52_7 : qR u 52 7 = some 58 := h.R (by decide) (by decide +kernel)
  have o_52_7 : qO u 52 7 = 58 := qO_of r_52_7
  have r_52_8 : qR u 52 8 = some 59 := h.R (by decide) (by decide +kernel)
  have o_52_8 : qO u 52 8 = 59 := qO_of r_52_8
  have r_52_9 : qR u 52 9 = some 60 := h.R (by decide) (by decide +kernel)
  have o_52_9 : qO u 52 9 = 60 := qO_of r_52_9
  have r_52_11 : qR u 52 11 = some 61 := h.R (by decide) (by decide +kernel)
  have o_52_11 : qO u 52 11 = 61 := qO_of r_52_11
  have r_52_12 : qR u 52 12 = some 62 := h.R (by decide) (by decide +kernel)
  have o_52_12 : qO u 52 12 = 62 := qO_of r_52_12
  have r_52_13 : qR u 52 13 = some 63 := h.R (by decide) (by decide +kernel)
  have o_52_13 : qO u 52 13 = 63 := qO_of r_52_13
  have r_52_14 : qR u 52 14 = some 64 := h.R (by decide) (by decide +kernel)
  have o_52_14 : qO u 52 14 = 64 := qO_of r_52_14
  have r_52_15 : qR u 52 15 = some 65 := h.R (by decide) (by decide +kernel)
  have o_52_15 : qO u 52 15 = 65 := qO_of r_52_15
  have n_2 : qN u 2 = 64 := h.N (by decide) (by decide +kernel)
  have n_4 : qN u 4 = 64 := h.N (by decide) (by decide +kernel)
  have n_6 : qN u 6 = 64 := h.N (by decide) (by decide +kernel)
  have n_18 : qN u 18 = 0 := h.N (by decide) (by decide +kernel)
  have n_19 : qN u 19 = 0 := h.N (by decide) (by decide +kernel)
  have n_20 : qN u 20 = 0 := h.N (by decide) (by decide +kernel)
  have n_21 : qN u 21 = 0 := h.N (by decide) (by decide +kernel)
  have n_22 : qN u 22 = 0 := h.N (by decide) (by decide +kernel)
  have n_23 : qN u 23 = 0 := h.N (by decide) (by decide +kernel)
  have n_27 : qN u 27 = 64 := h.N (by decide) (by decide +kernel)
  have n_29 : qN u 29 = 64 := h.N (by decide) (by decide +kernel)
  have n_31 : qN u 31 = 64 := h.N (by decide) (by decide +kernel)
  have n_39 : qN u 39 = 0 := h.N (by decide) (by decide +kernel)
  have n_40 : qN u 40 = 0 := h.N (by decide) (by decide +kernel)
  have n_41 : qN u 41 = 0 := h.N (by decide) (by decide +kernel)
  have n_42 : qN u 42 = 0 := h.N (by decide) (by decide +kernel)
  have n_43 : qN u 43 = 0 := h.N (by decide) (by decide +kernel)
  have n_46 : qN u 46 = 0 := h.N (by decide) (by decide +kernel)
  have n_47 : qN u 47 = 8 := h.N (by decide) (by decide +kernel)
  have n_49 : qN u 49 = 0 := h.N (by decide) (by decide +kernel)
  have n_50 : qN u 50 = 0 := h.N (by decide) (by decide +kernel)
  have n_53 : qN u 53 = 0 := h.N (by decide) (by decide +kernel)
  have n_54 : qN u 54 = 0 := h.N (by decide) (by decide +kernel)
  have n_55 : qN u 55 = 0 := h.N (by decide) (by decide +kernel)
  have n_56 : qN u 56 = 16 := h.N (by decide) (by decide +kernel)
  have n_57 : qN u 57 = 0 := h.N (by decide) (by decide +kernel)
  have n_58 : qN u 58 = 0 := h.N (by decide) (by decide +kernel)
  have n_59 : qN u 59 = 0 := h.N (by decide) (by decide +kernel)
  have n_60 : qN u 60 = 0 := h.N (by decide) (by decide +kernel)
  have n_61 : qN u 61 = 0 := h.N (by decide) (by decide +kernel)
  have n_62 : qN u 62 = 0 := h.N (by decide) (by decide +kernel)
  have n_63 : qN u 63 = 0 := h.N (by decide) (by decide +kernel)
  have n_64 : qN u 64 = 0 := h.N (by decide) (by decide +kernel)
  have n_65 : qN u 65 = 0 := h.N (by decide) (by decide +kernel)
  have n_67 : qN u 67 = 0 := h.N (by decide) (by decide +kernel)
  have n_68 : qN u 68 = 0 := h.N (by decide) (by decide +kernel)
  have n_69 : qN u 69 = 0 := h.N (by decide) (by decide +kernel)
  have n_70 : qN u 70 = 0 := h.N (by decide) (by decide +kernel)
  have n_71 : qN u 71 = 0 := h.N (by decide) (by decide +kernel)
  have n_72 : qN u 72 = 0 := h.N (by decide) (by decide +kernel)
  have n_73 : qN u 73 = 0 := h.N (by decide) (by decide +kernel)
  have n_74 : qN u 74 = 0 := h.N (by decide) (by decide +kernel)
  have n_76 : qN u 76 = 0 := h.N (by decide) (by decide +kernel)
  have n_77 : qN u 77 = 0 := h.N (by decide) (by decide +kernel)
  have n_78 : qN u 78 = 0 := h.N (by decide) (by decide +kernel)
  have n_79 : qN u 79 = 0 := h.N (by decide) (by decide +kernel)
  have i_67_2 : qI u 67 2 = 0 := h.I (by decide) (by decide +kernel)
  have i_67_4 : qI u 67 4 = 0 := h.I (by decide) (by decide +kernel)
  have i_67_9 : qI u 67 9 = 0 := h.I (by decide) (by decide +kernel)
  have i_52_1 : qI u 52 1 = 0 := h.I (by decide) (by decide +kernel)
  have i_44_5 : qI u 44 5 = 0 := h.I (by decide) (by decide +kernel)
  have i_44_3 : qI u 44 3 = 0 := h.I (by decide) (by decide +kernel)
  have i_44_7 : qI u 44 7 = 0 := h.I (by decide) (by decide +kernel)
  have i_1_1 : qI u 1 1 = 0 := h.I (by decide) (by decide +kernel)
  have i_3_1 : qI u 3 1 = 0 := h.I (by decide) (by decide +kernel)
  have i_5_1 : qI u 5 1 = 0 := h.I (by decide) (by decide +kernel)
  have i_26_1 : qI u 26 1 = 0 := h.I (by decide) (by decide +kernel)
  have i_28_1 : qI u 28 1 = 0 := h.I (by decide) (by decide +kernel)
  have i_30_1 : qI u 30 1 = 0 := h.I (by decide) (by decide +kernel)
  have i_0_11 : qI u 0 11 = 0 := h.I (by decide) (by decide +kernel)
  have kd : ∀ p t : Nat, t ≠ 0 → t ≠ 12 → t ≠ 22 → qT u p = t → p < 80 ∧ TFc.getD p 0 = t := fun p t t0 t12 t22 k => by
    have lt := w.lt k t0 t12 t22
    rw [h.1] at lt
    exact ⟨lt, by rw [← (h.2.2.1 p lt).1]; exact k⟩
  have D47 : ∀ p, p < 80 → TFc.getD p 0 = 47 → p = 67 := by decide +kernel
  have D49 : ∀ p, p < 80 → TFc.getD p 0 = 49 → False := by decide +kernel
  have D44 : ∀ p, p < 80 → TFc.getD p 0 = 44 → p = 17 ∨ p = 38 := by decide +kernel
  have D0 : ∀ p, p < 80 → TFc.getD p 0 ≠ 0 := by decide +kernel
  have z := li_0k
  have hp : hp2 u = 0 := by unfold hp2; rw [o_44_2, n_46]; rfl
  have g1 : ∀ p, qT u p = 47 → RwK u p := fun p k => by
    obtain ⟨a, b⟩ := kd p 47 (by decide) (by decide) (by decide) k
    rw [D47 p a b]
    refine ⟨⟨by rw [o_67_0]; exact r_67_0, by rw [o_67_1]; exact r_67_1, by rw [o_67_3]; exact r_67_3, by rw [o_67_5]; exact r_67_5, by rw [o_67_6]; exact r_67_6, by rw [o_67_7]; exact r_67_7, by rw [o_67_8]; exact r_67_8⟩, ?_⟩
    rw [o_67_0, o_67_1, o_67_3, o_67_5, o_67_6, o_67_7, o_67_8, n_68, n_69, n_70, n_71, n_72, n_73, n_74, i_67_2, i_67_4, i_67_9, z]
    decide
  have g3 : ∀ p, qT u p = 44 → HtK u p := fun p k => by
    obtain ⟨a, b⟩ := kd p 44 (by decide) (by decide) (by decide) k
    rcases D44 p a b with e | e
    · rw [e]
      refine ⟨⟨by rw [o_17_0]; exact r_17_0, by rw [o_17_1]; exact r_17_1, by rw [o_17_2]; exact r_17_2⟩, ?_⟩
      rw [o_17_0, o_17_1, o_17_2, n_18, n_19, n_20]
      decide
    · rw [e]
      refine ⟨⟨by rw [o_38_0]; exact r_38_0, by rw [o_38_1]; exact r_38_1, by rw [o_38_2]; exact r_38_2⟩, ?_⟩
      rw [o_38_0, o_38_1, o_38_2, n_39, n_40, n_41]
      decide
  have B0 : Nat × Nat := (1085600, 8000000)
  have G : ShC (1085600, 8000000) u := by
    refine ⟨g1, fun p k => ?_, g3, ?_, ?_, ?_, ?_, ?_, ?_⟩
    · obtain ⟨a, b⟩ := kd p 49 (by decide) (by decide) (by decide) k
      exact (D49 p a b).elim
    · unfold ChKk; rw [o_16_3, o_16_2, o_16_1, n_23, n_22, n_21]; decide
    · unfold WrK; rw [o_25_16, o_25_17, n_42, n_43]
    · unfold SmK; rw [o_66_0, o_67_0, o_66_2, o_66_3, o_66_4, o_66_5, n_68, n_76, n_77, n_78, n_79]; decide
    · intro a ha
      rw [h.1] at ha
      rw [(h.2.2.1 a ha).1]
      exact D0 a ha
    · unfold CpK; rw [o_1_0, o_3_0, o_5_0, o_26_0, o_28_0, o_30_0, o_17_0, o_38_0, o_16_2, o_25_17, o_52_3, o_52_13, o_52_9, o_52_5, o_52_7, o_44_2, o_44_4, o_44_8, o_44_9, o_66_2, n_2, n_4, n_6, n_27, n_29, n_31, n_18, n_39, n_22, n_43, n_54, n_63, n_60, n_56, n_58, n_46, n_47, n_49, n_50, n_76]; decide
    · unfold RmK PSc PNc; rw [o_1_0, o_3_0, o_5_0, o_26_0, o_28_0, o_30_0, o_17_0, o_38_0, o_16_2, o_25_17, o_52_3, o_52_13, o_52_9, o_52_5, o_52_7, o_44_2, o_44_4, o_44_8, o_44_9, o_66_2, n_2, n_4, n_6, n_27, n_29, n_31, n_18, n_39, n_22, n_43, n_54, n_63, n_60, n_56, n_58, n_46, n_47, n_49, n_50, n_76, hp, h.1, h.2.1]
      exact ⟨by decide, by decide, by decide, by decide⟩
  have GL : GrL u := by unfold GrL; rw [o_52_2, o_52_3, o_52_8, o_52_13, o_52_11, o_52_12, o_52_14, o_52_15, o_52_6, o_52_4, o_52_5, o_52_7, n_53, n_54, n_59, n_63, n_61, n_62, n_64, n_65, n_57, n_55, n_56, n_58]; decide
  have g0 : qR u 52 0 = none := h.R0 (by decide) (by decide +kernel)
  have s0 : qR u 44 0 = none := h.R0 (by decide) (by decide +kernel)
  refine ⟨(1085600, 8000000), ⟨?_, ?_⟩, ⟨⟨G, GL, Or.inl ⟨g0, by rw [i_52_1]; rfl, by rw [o_52_3, n_54]⟩⟩, fun r e => ?_, fun r e => ?_⟩, ⟨by rw [i_0_11, z]; decide, fun f hf => ?_, fun p e => ?_⟩, ?_, ⟨?_, by rw [i_44_7, z]; decide, Or.inl ⟨by rw [o_44_8, n_49], by rw [o_44_9, n_50]⟩⟩, ⟨?_, ?_, ?_⟩, ⟨⟨?_, ?_, ?_⟩, ?_, ?_⟩, by rw [i_1_1, z]; decide⟩
  · rw [i_0_11]; show 1085600 + 86400 * 0 + 0 ≤ 1085600 + 209606 * 0; decide
  · rw [i_0_11]; show 8000000 + 4608 * 0 ≤ 8000000 + 17536 * 0; decide
  · rw [g0] at e; cases e
  · rw [g0] at e; cases e
  · rw [i_0_11, z] at hf; omega
  · rw [s0] at e; cases e
  · unfold SmT; rw [o_66_0, o_67_0, n_68]; intro y; exact absurd y (by decide)
  · unfold MaI; rw [i_44_5, i_44_3, o_44_4, n_47, z]; decide
  · exact ⟨by rw [o_1_0]; exact r_1_0, by rw [i_1_1, o_1_0, n_2, z]; decide, by rw [o_1_0, n_2]; decide, by rw [o_1_0, n_2]; decide⟩
  · exact ⟨by rw [o_3_0]; exact r_3_0, by rw [i_3_1, o_3_0, n_4, z]; decide, by rw [o_3_0, n_4]; decide, by rw [o_3_0, n_4]; decide⟩
  · exact ⟨by rw [o_5_0]; exact r_5_0, by rw [i_5_1, o_5_0, n_6, z]; decide, by rw [o_5_0, n_6]; decide, by rw [o_5_0, n_6]; decide⟩
  · exact ⟨by rw [o_26_0]; exact r_26_0, by rw [i_26_1, o_26_0, n_27, z]; decide, by rw [o_26_0, n_27]; decide, by rw [o_26_0, n_27]; decide⟩
  · exact ⟨by rw [o_28_0]; exact r_28_0, by rw [i_28_1, o_28_0, n_29, z]; decide, by rw [o_28_0, n_29]; decide, by rw [o_28_0, n_29]; decide⟩
  · exact ⟨by rw [o_30_0]; exact r_30_0, by rw [i_30_1, o_30_0, n_31, z]; decide, by rw [o_30_0, n_31]; decide, by rw [o_30_0, n_31]; decide⟩
  · rw [o_26_0, o_30_0]; decide
  · rw [o_26_0, o_28_0]; decide
theorem zf_new (h : StC 1 79 6 18 S) : zX12_init S 0 (fun u => wfCZ u ∧ StC 80 0 0 3745 u) := zi_new h
theorem zf_a7 (h : StC 80 0 0 3745 u) : qI u 44 7 = 0 := h.I (by decide) (by decide +kernel)
end ZFA
/-! every call, for the law: the invariant and the count of arguments -/
section CQA
variable {S : MS} {x1 x2 x3 x4 x5 : Int32}
theorem cl_feed (w : wfC S) (h : CI S) : ∃ Q, wX12_feed S x1 x2 x3 x4 x5 Q ∧ ∀ r u, Q r u → CI u ∧ qI u 44 7 = qI S 44 7 := by
  obtain ⟨B, h⟩ := h
  exact ⟨_, frX12_feed w (ci_feed w h), fun r u q => ⟨⟨B, q.1⟩, q.2.kI w.k44 rfl rfl⟩⟩
theorem cl_end (w : wfC S) (h : CI S) : ∃ Q, wX12_end S x1 Q ∧ ∀ r u, Q r u → CI u ∧ qI u 44 7 = qI S 44 7 := by
  obtain ⟨B, h⟩ := h
  exact ⟨_, frX12_end w (ci_end w h), fun r u q => ⟨⟨B, q.1⟩, q.2.kI w.k44 rfl rfl⟩⟩
theorem cl_file (w : wfC S) (h : CI S) : ∃ Q, wX12_file S Q ∧ ∀ r u, Q r u → CI u ∧ qI u 44 7 = qI S 44 7 := by
  obtain ⟨B, h⟩ := h
  exact ⟨_, frX12_file w (ci_file w h), fun r u q => ⟨q.1, q.2.kI w.k44 rfl rfl⟩⟩
theorem cl_size (w : wfC S) (h : CI S) : ∃ Q, wX12_size S x1 x2 Q ∧ ∀ r u, Q r u → CI u ∧ qI u 44 7 = qI S 44 7 := by
  obtain ⟨B, h⟩ := h
  exact ⟨_, frX12_size w (ci_size w h), fun r u q => ⟨⟨B, q.1⟩, q.2.kI w.k44 rfl rfl⟩⟩
theorem cl_length (w : wfC S) (h : CI S) : ∃ Q, wX12_length S x1 x2 Q ∧ ∀ r u, Q r u → CI u ∧ qI u 44 7 = qI S 44 7 := by
  obtain ⟨B, h⟩ := h
  exact ⟨_, frX12_length w (ci_length w h), fun r u q => ⟨⟨B, q.1⟩, q.2.kI w.k44 rfl rfl⟩⟩
theorem cl_verify (w : wfC S) (h : CI S) : ∃ Q, wX12_verify S x1 Q ∧ ∀ r u, Q r u → CI u ∧ qI u 44 7 = qI S 44 7 := by
  obtain ⟨B, h⟩ := h
  exact ⟨_, frX12_verify w (ci_verify w h), fun r u q => ⟨q.1, q.2.kI w.k44 rfl rfl⟩⟩
theorem cl_height (w : wfC S) (h : CI S) : ∃ Q, wX12_height S x1 x2 x3 Q ∧ ∀ r u, Q r u → CI u ∧ qI u 44 7 = qI S 44 7 := by
  obtain ⟨B, h⟩ := h
  exact ⟨_, frX12_height w (ci_height w h), fun r u q => ⟨⟨B, q.1⟩, q.2.kI w.k44 rfl rfl⟩⟩
theorem cl_local (w : wfC S) (h : CI S) : ∃ Q, wX12_local S x1 x2 x3 x4 Q ∧ ∀ r u, Q r u → CI u ∧ qI u 44 7 = qI S 44 7 := by
  obtain ⟨B, h⟩ := h
  exact ⟨_, frX12_local w (ci_local w h), fun r u q => ⟨⟨B, q.1⟩, q.2.kI w.k44 rfl rfl⟩⟩
theorem cl_write (w : wfC S) (h : CI S) : ∃ Q, wX12_write S x1 Q ∧ ∀ r u, Q r u → CI u ∧ qI u 44 7 = qI S 44 7 := by
  obtain ⟨B, h⟩ := h
  exact ⟨_, frX12_write w (ci_write w h), fun r u q => ⟨⟨B, q.1⟩, q.2.kI w.k44 rfl rfl⟩⟩
theorem cl_stage (w : wfC S) (h : CI S) : ∃ Q, wX12_stage S x1 Q ∧ ∀ r u, Q r u → CI u ∧ qI u 44 7 = qI S 44 7 := by
  obtain ⟨B, h⟩ := h
  exact ⟨_, frX12_stage w (ci_stage w h), fun r u q => ⟨⟨B, q.1⟩, q.2.kI w.k44 rfl rfl⟩⟩
theorem cl_element (w : wfC S) (h : CI S) : ∃ Q, wX12_element S x1 x2 Q ∧ ∀ r u, Q r u → CI u ∧ qI u 44 7 = qI S 44 7 := by
  obtain ⟨B, h⟩ := h
  exact ⟨_, frX12_element w (ci_element w h), fun r u q => ⟨⟨B, q.1⟩, q.2.kI w.k44 rfl rfl⟩⟩
theorem cl_blocks (w : wfC S) (h : CI S) : ∃ Q, wX12_blocks S x1 x2 Q ∧ ∀ r u, Q r u → CI u ∧ qI u 44 7 = qI S 44 7 := by
  obtain ⟨B, h⟩ := h
  exact ⟨_, frX12_blocks w (ci_blocks w h), fun r u q => ⟨⟨B, q.1⟩, q.2.kI w.k44 rfl rfl⟩⟩
theorem cl_block (w : wfC S) (h : CI S) : ∃ Q, wX12_block S x1 x2 x3 x4 Q ∧ ∀ r u, Q r u → CI u ∧ qI u 44 7 = qI S 44 7 := by
  obtain ⟨B, h⟩ := h
  exact ⟨_, frX12_block w (ci_block w h), fun r u q => ⟨⟨B, q.1⟩, q.2.kI w.k44 rfl rfl⟩⟩
theorem cl_edge (w : wfC S) (h : CI S) : ∃ Q, wX12_edge S x1 x2 x3 x4 Q ∧ ∀ r u, Q r u → CI u ∧ qI u 44 7 = qI S 44 7 := by
  obtain ⟨B, h⟩ := h
  exact ⟨_, frX12_edge w (ci_edge w h), fun r u q => ⟨⟨B, q.1⟩, q.2.kI w.k44 rfl rfl⟩⟩
theorem cl_improve (w : wfC S) (h : CI S) : ∃ Q, wX12_improve S x1 x2 Q ∧ ∀ r u, Q r u → CI u ∧ qI u 44 7 = qI S 44 7 := by
  obtain ⟨B, h⟩ := h
  exact ⟨_, frX12_improve w (ci_improve w h), fun r u q => ⟨q.1, q.2.kI w.k44 rfl rfl⟩⟩
theorem cl_count (w : wfC S) (h : CI S) : ∃ Q, wX12_count S x1 Q ∧ ∀ r u, Q r u → CI u ∧ qI u 44 7 = qI S 44 7 := by
  obtain ⟨B, h⟩ := h
  exact ⟨_, frX12_count w (ci_count w h), fun r u q => ⟨q.1, q.2.kI w.k44 rfl rfl⟩⟩
theorem cl_argument {y1 : Int64} (w : wfC S) (h : CI S) : ∃ Q, wX12_argument S y1 Q ∧ ∀ r u, Q r u → CI u ∧ qI u 44 7 = agN (qI S 44 7) ∧ r = if (qI S 44 7).toInt < 8 then qI S 44 7 + 1 else -1 := by
  obtain ⟨B, h⟩ := h
  exact ⟨_, ci_argument w h, fun r u q => ⟨⟨B, q.1⟩, q.2⟩⟩
theorem cl_run (w : wfC S) (h : CI S) : ∃ Q, wX12_run S x1 x2 Q ∧ ∀ r u, Q r u → CI u ∧ qI u 44 7 = 0 := by
  obtain ⟨B, h⟩ := h
  exact ⟨_, ci_run w h, fun r u q => ⟨⟨B, q.1⟩, q.2⟩⟩
theorem cl_field (w : wfC S) (h : CI S) : d_X12_field S x1 := by
  obtain ⟨B, h⟩ := h
  exact ci_field w h
theorem cl_byteAt (h : CI S) : d_X12_byteAt S x1 := by
  obtain ⟨B, h⟩ := h
  exact ci_byteAt h
theorem cl_new (h : StC 1 79 6 18 S) : ∃ Q, zX12_init S 0 Q ∧ ∀ u, Q u → wfC u ∧ CI u ∧ qI u 44 7 = 0 := ⟨_, zf_new h, fun _ q => ⟨zf_wfC q.1 q.2, zf_CI (zf_wfC q.1 q.2) q.2, zf_a7 q.2⟩⟩
end CQA
