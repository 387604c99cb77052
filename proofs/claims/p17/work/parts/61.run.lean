set_option maxHeartbeats 1000000 in
set_option maxRecDepth 100000 in
theorem m_X5_raise (l : Launch) (g : Gm) (sz : Nat) (ws : va_W) (h0 : Nat) (x1 : Int32) (hG : Good g ws) (o_h0 : gC ws h0 5) (nn_h0_0 : gN ws h0 0) (nn_h0_12 : gN ws h0 12) (tk0 : frP g ws h0) (tk1 : swU ws h0) (tk2 : swC ws h0) (tk3 : arP g ws h0) : Met l yX5_raise (wt yX5_raise cX5_raise 4 none) ({ frames := 2, cells := 0, slots := 0, locals := 44 }) (va_Pc [.ref h0, .int x1] (st_G g sz ws)) (va_Qv (fun (u9 : va_W) => (True) ∧ (gN u9 h0 0) ∧ (gN u9 h0 12) ∧ (frP g u9 h0) ∧ (swU u9 h0) ∧ (swC u9 h0) ∧ (arP g u9 h0)) (gQ1 g [(5, 11), (5, 12), (5, 13), (5, 14), (5, 15), (5, 17), (5, 19)] [(5, 9)] none (va_A ws sz) ws) (va_A ws sz)) (0) (0) (va_A ws sz) := by
  refine Met.ofW (cc := cX5_raise) (maxL := 4) (ret := none) (by decide) rfl ?_
  intro p e s m args below meth c s₁ B hml hv
  obtain ⟨rfl, hsz, hP, hK, hD0, hex, hE⟩ := hv
  have hx := B.exec
  have hb := B.bytes
  have hr := B.returns
  have hts0 := atoms_spec (ws := wt yX5_raise cX5_raise 4 none) B.pre
  have hts : ∀ w ∈ tb, w.before _ s = true := fun w h => hts0 w (List.mem_cons_of_mem _ h)
  have hown : s.vm.findClass RX5 = some m.cls := findClass_of_methodNamed B.named
  subst hsz
  have hD := hD0.self (sz := s.heap.size)
  generalize hAe : va_A ws s.heap.size = A at hD hE ⊢
  have hA : ∀ q : Nat, s.heap.size ≤ q → A q := fun q h => by rw [← hAe]; exact Or.inr h
  have hS : va_S A s.heap s.heap [] := va_S.rf
  have hl := lv_entry ([.ref h0, .int x1]) (n := 4) (Nat.le_of_ble_eq_true rfl)
  rw [lg_entry_eq]
  generalize (lg_sl ([.ref h0, .int x1]) ++ List.replicate (4 - (lg_sl ([.ref h0, .int x1])).length) Slot.unset).toArray = ls at hl ⊢
  have hl : lv_has ls 4 [(0, .ref h0), (1, .int x1)] := hl
  obtain ⟨k_1, fs9, hk_1⟩ := gC_of o_h0
  obtain ⟨v0_1, r1_1, n1_1, r2_1, n2_1, c3_1, r4_1, n4_1, c5_1, r6_1, n6_1, c7_1, r8_1, n8_1, r9_1, n9_1, r10_1, n10_1, c11_1, v12_1, c13_1, c14_1, c15_1, l16_1, c17_1, c18_1, c19_1, rfl, o_v0_1, F_v0_1, a_r1_1, f3_1, a_r2_1, f5_1, a_r4_1, f7_1, a_r6_1, f9_1, a_r8_1, f11_1, a_r9_1, f13_1, a_r10_1, f15_1, o_v12_1, f17_1, f18_1, f19_1, f20_1, f21_1, f22_1, f23_1, f24_1, f25_1, f26_1, f27_1, f28_1, f29_1, f30_1, f31_1, -⟩ := (hG.1 _ _ _ _ hk_1).hX5 rfl
  obtain ⟨b_2, hn9⟩ := nn_h0_0 _ _ _ hk_1
  have hn9 := fe_qr hn9
  subst hn9
  have o_b_2 := o_v0_1 _ rfl
  have F_b_2 := F_v0_1 _ rfl
  obtain ⟨b_3, hn9⟩ := nn_h0_12 _ _ _ hk_1
  have hn9 := fe_qr hn9
  subst hn9
  have o_b_3 := o_v12_1 _ rfl
  refine lv_aload_n hx hb dX5_raise_0 rfl (lv_at hl 0 rfl) ?_
  refine va_get (D := gD g) (ci := 5) (v := .int c11_1) (C := RX5) (T := TX5) (N := 20) hx hb hts inX5 hown hK hP k_1 hk_1 rfl 11 (by decide) (hts _ kw_1025) (fun _ h9 => h9) rfl dX5_raise_1 ?_
  refine lv_istore_n (lv' := [(2, .int c11_1), (0, .ref h0), (1, .int x1)]) hx hb dX5_raise_4 rfl hl (by decide) rfl (fun ls hl => ?_)
  have J_5 : ∀ (n9 : Nat) (v2_4 : Int32) (ws_5 : va_W) (H : Heap) (locs : List Loc) (ls : Array Slot), (v2_4.toInt + 1).toNat = n9 → gE ws ws_5 → gF [(5, 11), (5, 12), (5, 13), (5, 14)] [] none ws ws_5 → Good g ws_5 → frP g ws_5 h0 → swU ws_5 h0 → swC ws_5 h0 → arP g ws_5 h0 → gN ws_5 h0 12 → va_P (gD g) cl0 ws_5 H → va_D A ws_5 → va_S A s.heap H locs → lv_has ls 4 [(0, .ref h0), (1, .int x1), (2, .int v2_4)] → W p l e (headSpec (wt yX5_raise cX5_raise 4 none) ({ frames := 2, cells := 0, slots := 0, locals := 44 })).room s m ([.ref h0, .int x1] : List Value).toArray below meth c H locs (0) (0) (MQ below (va_Qv (fun (u9 : va_W) => (True) ∧ (gN u9 h0 0) ∧ (gN u9 h0 12) ∧ (frP g u9 h0) ∧ (swU u9 h0) ∧ (swC u9 h0) ∧ (arP g u9 h0)) (gQ1 g [(5, 11), (5, 12), (5, 13), (5, 14), (5, 15), (5, 17), (5, 19)] [(5, 9)] none A ws) A) ([.ref h0, .int x1] : List Value).toArray s (0) (0) A) (F0 m 5 ls []) := by
    intro n9
    induction n9 using Nat.strongRecOn with
    | ind n9 ih_5 =>
      intro v2_4 ws_5 H locs ls hm9  E_6 Fr_7 hG jx_5_0 jx_5_1 jx_5_2 jx_5_3 jx_5_4 hP hD hS hl
      subst hm9
      have aa_8 := a_r1_1
      have aa_9 := a_r2_1
      have aa_10 := a_r4_1
      have aa_11 := a_r6_1
      have aa_12 := a_r8_1
      have aa_13 := a_r9_1
      have aa_14 := a_r10_1
      have o_h0 := E_6.1 _ _ o_h0
      refine lv_iload_n hx hb dX5_raise_5 rfl (lv_at hl 2 rfl) ?_
      refine lv_if_lt (tgt := 52) hx hb dX5_raise_6 (by decide) (fun c_15 => ?_) (fun c_15 => ?_)
      · refine lv_aload_n hx hb dX5_raise_52 rfl (lv_at hl 0 rfl) ?_
        refine lv_iconst (v := 1) hx hb dX5_raise_53 (by decide) ?_
        obtain ⟨fs9, hk_16, hq_16⟩ := ((gF.a (F' := [(5, 11), (5, 12), (5, 13), (5, 14)]) Fr_7 (fun _ h => h))) _ _ _ hk_1
        obtain ⟨v0_16, r1_16, n1_16, r2_16, n2_16, c3_16, r4_16, n4_16, c5_16, r6_16, n6_16, c7_16, r8_16, n8_16, r9_16, n9_16, r10_16, n10_16, c11_16, v12_16, c13_16, c14_16, c15_16, l16_16, c17_16, c18_16, c19_16, rfl, o_v0_16, F_v0_16, a_r1_16, f3_16, a_r2_16, f5_16, a_r4_16, f7_16, a_r6_16, f9_16, a_r8_16, f11_16, a_r9_16, f13_16, a_r10_16, f15_16, o_v12_16, f17_16, f18_16, f19_16, f20_16, f21_16, f22_16, f23_16, f24_16, f25_16, f26_16, f27_16, f28_16, f29_16, f30_16, f31_16, -⟩ := (hG.1 _ _ _ _ hk_16).hX5 rfl
        have hn9 := fe_qr (hq_16 0 (by decide))
        subst hn9
        have o_b_2 := o_v0_16 _ rfl
        have F_b_2 := F_v0_16 _ rfl
        obtain ⟨b_17, hn9⟩ := jx_5_4 _ _ _ hk_16
        have hn9 := fe_qr hn9
        subst hn9
        have o_b_17 := o_v12_16 _ rfl
        have hV9 : okv ws_5 5 15 (.int 1) := okv_i
        refine va_put (D := gD g) (ci := 5) (v := .int 1) (ty := .int) (C := RX5) (T := TX5) (N := 20) hx hb hts inX5 tyX5 tyX5_ok nmX5 hown hK hP hD hS k_1 hk_16 rfl 15 (by decide) (hts _ kw_1041) (fun _ h9 => h9) rfl (by decide +kernel) rfl rfl (Nat.le_of_ble_eq_true rfl) dX5_raise_54 (fun H locs hP hD hS => ?_)
        have hi_18 : invX5 g ws_5 h0 [.ref b_2, .ref r1_16, .ref r2_16, .int c3_16, .ref r4_16, .int c5_16, .ref r6_16, .int c7_16, .ref r8_16, .ref r9_16, .ref r10_16, .int c11_16, .ref b_17, .int c13_16, .int c14_16, .int 1, .long l16_16, .int c17_16, .int c18_16, .int c19_16] := ⟨(some b_2), r1_16, (n1_16), r2_16, (n2_16), (c3_16), r4_16, (n4_16), (c5_16), r6_16, (n6_16), (c7_16), r8_16, (n8_16), r9_16, (n9_16), r10_16, (n10_16), (c11_16), (some b_17), (c13_16), (c14_16), (1), (l16_16), (c17_16), (c18_16), (c19_16), rfl, (fun b h9 => by cases h9; exact o_b_2), (fun b h9 => by cases h9; exact F_b_2), a_r1_16, f3_16, a_r2_16, f5_16, a_r4_16, f7_16, a_r6_16, f9_16, a_r8_16, f11_16, a_r9_16, f13_16, a_r10_16, f15_16, (fun b h9 => by cases h9; exact o_b_17), f17_16, f18_16, f19_16, f20_16, f21_16, f22_16, f23_16, f24_16, f25_16, f26_16, f27_16, f28_16, f29_16, f30_16, f31_16, trivial⟩
        obtain ⟨ws_19, e_ws_19⟩ : ∃ z, z = ws_5.set k_1 (h0, .inr (5, [.ref b_2, .ref r1_16, .ref r2_16, .int c3_16, .ref r4_16, .int c5_16, .ref r6_16, .int c7_16, .ref r8_16, .ref r9_16, .ref r10_16, .int c11_16, .ref b_17, .int c13_16, .int c14_16, .int 1, .long l16_16, .int c17_16, .int c18_16, .int c19_16])) := ⟨_, rfl⟩
        have hP : va_P (gD g) cl0 ws_19 H := by rw [e_ws_19]; exact hP
        have hD : va_D A ws_19 := by rw [e_ws_19]; exact hD
        have E_20 : gE ws_5 ws_19 := gE_set e_ws_19 hk_16 (cw_o (fi := 15) (v := .int 1) rfl (by decide))
        have hG : Good g ws_19 := Good_set (fi := 15) (v := .int 1) e_ws_19 hk_16 E_20 rfl hV9 hG (ivX5 hi_18)
        have Fr_21 : gF [(5, 15)] [] (some h0) ws_5 ws_19 := gF_put (fi := 15) (v := .int 1) e_ws_19 hk_16 rfl (by decide)
        have hkN := gset_self e_ws_19 hk_16
        have hk_16 := hkN
        have o_h0 := E_20.1 _ _ o_h0
        have a_r1_16 := E_20.1 _ _ a_r1_16
        have a_r2_16 := E_20.1 _ _ a_r2_16
        have a_r4_16 := E_20.1 _ _ a_r4_16
        have a_r6_16 := E_20.1 _ _ a_r6_16
        have a_r8_16 := E_20.1 _ _ a_r8_16
        have a_r9_16 := E_20.1 _ _ a_r9_16
        have a_r10_16 := E_20.1 _ _ a_r10_16
        have o_b_2 := E_20.1 _ _ o_b_2
        have F_b_2 := F_b_2.mo E_20
        have o_b_17 := E_20.1 _ _ o_b_17
        refine lv_aload_n hx hb dX5_raise_57 rfl (lv_at hl 0 rfl) ?_
        refine lv_iload_n hx hb dX5_raise_58 rfl (lv_at hl 1 rfl) ?_
        have hV9 : okv ws_19 5 17 (.int x1) := okv_i
        refine va_put (D := gD g) (ci := 5) (v := .int x1) (ty := .int) (C := RX5) (T := TX5) (N := 20) hx hb hts inX5 tyX5 tyX5_ok nmX5 hown hK hP hD hS k_1 hk_16 rfl 17 (by decide) (hts _ kw_1073) (fun _ h9 => h9) rfl (by decide +kernel) rfl rfl (Nat.le_of_ble_eq_true rfl) dX5_raise_59 (fun H locs hP hD hS => ?_)
        have hi_22 : invX5 g ws_19 h0 [.ref b_2, .ref r1_16, .ref r2_16, .int c3_16, .ref r4_16, .int c5_16, .ref r6_16, .int c7_16, .ref r8_16, .ref r9_16, .ref r10_16, .int c11_16, .ref b_17, .int c13_16, .int c14_16, .int 1, .long l16_16, .int x1, .int c18_16, .int c19_16] := ⟨(some b_2), r1_16, (n1_16), r2_16, (n2_16), (c3_16), r4_16, (n4_16), (c5_16), r6_16, (n6_16), (c7_16), r8_16, (n8_16), r9_16, (n9_16), r10_16, (n10_16), (c11_16), (some b_17), (c13_16), (c14_16), (1), (l16_16), (x1), (c18_16), (c19_16), rfl, (fun b h9 => by cases h9; exact o_b_2), (fun b h9 => by cases h9; exact F_b_2), a_r1_16, f3_16, a_r2_16, f5_16, a_r4_16, f7_16, a_r6_16, f9_16, a_r8_16, f11_16, a_r9_16, f13_16, a_r10_16, f15_16, (fun b h9 => by cases h9; exact o_b_17), f17_16, f18_16, f19_16, f20_16, f21_16, f22_16, f23_16, f24_16, f25_16, f26_16, f27_16, f28_16, f29_16, f30_16, f31_16, trivial⟩
        obtain ⟨ws_23, e_ws_23⟩ : ∃ z, z = ws_19.set k_1 (h0, .inr (5, [.ref b_2, .ref r1_16, .ref r2_16, .int c3_16, .ref r4_16, .int c5_16, .ref r6_16, .int c7_16, .ref r8_16, .ref r9_16, .ref r10_16, .int c11_16, .ref b_17, .int c13_16, .int c14_16, .int 1, .long l16_16, .int x1, .int c18_16, .int c19_16])) := ⟨_, rfl⟩
        have hP : va_P (gD g) cl0 ws_23 H := by rw [e_ws_23]; exact hP
        have hD : va_D A ws_23 := by rw [e_ws_23]; exact hD
        have E_24 : gE ws_19 ws_23 := gE_set e_ws_23 hk_16 (cw_o (fi := 17) (v := .int x1) rfl (by decide))
        have hG : Good g ws_23 := Good_set (fi := 17) (v := .int x1) e_ws_23 hk_16 E_24 rfl hV9 hG (ivX5 hi_22)
        have Fr_25 : gF [(5, 17)] [] (some h0) ws_19 ws_23 := gF_put (fi := 17) (v := .int x1) e_ws_23 hk_16 rfl (by decide)
        have hkN := gset_self e_ws_23 hk_16
        have hk_16 := hkN
        have o_h0 := E_24.1 _ _ o_h0
        have a_r1_16 := E_24.1 _ _ a_r1_16
        have a_r2_16 := E_24.1 _ _ a_r2_16
        have a_r4_16 := E_24.1 _ _ a_r4_16
        have a_r6_16 := E_24.1 _ _ a_r6_16
        have a_r8_16 := E_24.1 _ _ a_r8_16
        have a_r9_16 := E_24.1 _ _ a_r9_16
        have a_r10_16 := E_24.1 _ _ a_r10_16
        have o_b_2 := E_24.1 _ _ o_b_2
        have F_b_2 := F_b_2.mo E_24
        have o_b_17 := E_24.1 _ _ o_b_17
        refine W.widen (k := 0) (n := 0) (Nat.le_of_ble_eq_true rfl) (Nat.le_of_ble_eq_true rfl) ?_
        have tq_26 : frP g ws_23 h0 := frP_mo ((gF.tr (gF.mo (F' := [(5, 15), (5, 17)]) (C' := []) (S' := none) Fr_21 (by decide) (fun _ h => h) (Or.inl rfl)) (gF.mo (F' := [(5, 15), (5, 17)]) (C' := []) (S' := none) Fr_25 (by decide) (fun _ h => h) (Or.inl rfl)))) (by decide) (by decide) (by decide) (by decide) (by decide) jx_5_0
        have tq_27 : swU ws_23 h0 := swU_mo ((gF.tr (gF.mo (F' := [(5, 15), (5, 17)]) (C' := []) (S' := none) Fr_21 (by decide) (fun _ h => h) (Or.inl rfl)) (gF.mo (F' := [(5, 15), (5, 17)]) (C' := []) (S' := none) Fr_25 (by decide) (fun _ h => h) (Or.inl rfl)))) (by decide) (by decide) (by decide) (by decide) (by decide) (by decide) (by decide) (by decide) (by decide) (by decide) (by decide) jx_5_1
        have tq_28 : swC ws_23 h0 := swC_mo ((gF.tr (gF.mo (F' := [(5, 15), (5, 17)]) (C' := []) (S' := none) Fr_21 (by decide) (fun _ h => h) (Or.inl rfl)) (gF.mo (F' := [(5, 15), (5, 17)]) (C' := []) (S' := none) Fr_25 (by decide) (fun _ h => h) (Or.inl rfl)))) (by decide) (by decide) (by decide) (by decide) (by decide) (by decide) (by decide) (by decide) (by decide) jx_5_2
        have tq_29 : arP g ws_23 h0 := arP_mo ((gF.tr (gF.mo (F' := [(5, 15), (5, 17)]) (C' := []) (S' := none) Fr_21 (by decide) (fun _ h => h) (Or.inl rfl)) (gF.mo (F' := [(5, 15), (5, 17)]) (C' := []) (S' := none) Fr_25 (by decide) (fun _ h => h) (Or.inl rfl)))) ((E_20.tr E_24)) (by decide) (by decide) jx_5_3
        exact W.vret hx hb hr (fun t9 ht9 hW9 => ⟨⟨ws_23, rfl, ⟨trivial, (gN_of hD hk_16 (j := 0) rfl), (gN_of hD hk_16 (j := 12) rfl), tq_26, tq_27, tq_28, tq_29⟩, ⟨(E_6.tr (E_20.tr E_24)), (gF.tr (gF.mo (F' := [(5, 11), (5, 12), (5, 13), (5, 14), (5, 15), (5, 17), (5, 19)]) (C' := [(5, 9)]) (S' := none) Fr_7 (by decide) (fun _ h => absurd h List.not_mem_nil) (Or.inr rfl)) (gF.tr (gF.mo (F' := [(5, 11), (5, 12), (5, 13), (5, 14), (5, 15), (5, 17), (5, 19)]) (C' := [(5, 9)]) (S' := none) Fr_21 (by decide) (fun _ h => absurd h List.not_mem_nil) (Or.inl rfl)) (gF.mo (F' := [(5, 11), (5, 12), (5, 13), (5, 14), (5, 15), (5, 17), (5, 19)]) (C' := [(5, 9)]) (S' := none) Fr_25 (by decide) (fun _ h => absurd h List.not_mem_nil) (Or.inl rfl)))), hG, by rw [ht9]; exact hP, hD⟩⟩, hS.F ht9⟩) hS.2.2 dX5_raise_62
      · refine lv_aload_n hx hb dX5_raise_9 rfl (lv_at hl 0 rfl) ?_
        refine lv_iload_n hx hb dX5_raise_10 rfl (lv_at hl 1 rfl) ?_
        obtain ⟨fs9, hk_30, hq_30⟩ := ((gF.a (F' := [(5, 11), (5, 12), (5, 13), (5, 14)]) Fr_7 (fun _ h => h))) _ _ _ hk_1
        obtain ⟨v0_30, r1_30, n1_30, r2_30, n2_30, c3_30, r4_30, n4_30, c5_30, r6_30, n6_30, c7_30, r8_30, n8_30, r9_30, n9_30, r10_30, n10_30, c11_30, v12_30, c13_30, c14_30, c15_30, l16_30, c17_30, c18_30, c19_30, rfl, o_v0_30, F_v0_30, a_r1_30, f3_30, a_r2_30, f5_30, a_r4_30, f7_30, a_r6_30, f9_30, a_r8_30, f11_30, a_r9_30, f13_30, a_r10_30, f15_30, o_v12_30, f17_30, f18_30, f19_30, f20_30, f21_30, f22_30, f23_30, f24_30, f25_30, f26_30, f27_30, f28_30, f29_30, f30_30, f31_30, -⟩ := (hG.1 _ _ _ _ hk_30).hX5 rfl
        have hn9 := fe_qr (hq_30 0 (by decide))
        subst hn9
        have o_b_2 := o_v0_30 _ rfl
        have F_b_2 := F_v0_30 _ rfl
        obtain ⟨b_31, hn9⟩ := jx_5_4 _ _ _ hk_30
        have hn9 := fe_qr hn9
        subst hn9
        have o_b_31 := o_v12_30 _ rfl
        have hFc := gfree hD hS hA
        refine va_calli (va_runV (As := [.int x1]) (rest := []) ⟨hx, hb, hml, hown, hts⟩ (m_X5_handlerOf l g H.size ws_5 h0 (x1) hG o_h0 (gN_of hD hk_30 (j := 12) rfl)) (cwV 1 hts (gd_V kw_1138 kw_1060 kw_1061 kw_398 kw_1059) rfl rfl rfl (by decide +kernel) ⟨Nat.le_of_ble_eq_true rfl, Nat.le_of_ble_eq_true rfl⟩) ⟨gblind, va_recv hK hP (ci := 5) (q0 := k_1) rfl hk_30, fun U hU hW9 => gmk hU hW9 hP hK hD hex hE hS hFc⟩ rfl rfl hl.1 rfl (lv_room (Nat.le_of_ble_eq_true rfl)) dX5_raise_11 ⟨Nat.le_of_ble_eq_true rfl, Nat.le_of_ble_eq_true rfl⟩) hS (fun q _ h => hFc q h) hFc (fun r_32 u9 t9 H1 locs ht9 hvm9 hw9 hB9 hz9 hk9 hS => ?_)
        have hP : va_P (gD g) cl0 ws_5 H1 := by rw [← ht9]; exact hB9.1
        clear hB9 hz9 hk9 hvm9 ht9 hw9
        generalize H1 = H at hP hS ⊢
        refine lv_istore_n (lv' := [(3, .int r_32), (0, .ref h0), (1, .int x1), (2, .int v2_4)]) hx hb dX5_raise_14 rfl hl (by decide) rfl (fun ls hl => ?_)
        refine lv_iload_n hx hb dX5_raise_15 rfl (lv_at hl 0 rfl) ?_
        refine lv_if_lt (tgt := 38) hx hb dX5_raise_16 (by decide) (fun c_33 => ?_) (fun c_33 => ?_)
        · refine lv_iload_n hx hb dX5_raise_38 rfl (lv_at hl 3 rfl) ?_
          have J_46 : ∀ (ws_34 : va_W) (H : Heap) (locs : List Loc) (ls : Array Slot), gE ws_5 ws_34 → gF [(5, 11), (5, 12), (5, 13), (5, 14)] [] none ws_5 ws_34 → Good g ws_34 → frP g ws_34 h0 → swU ws_34 h0 → swC ws_34 h0 → arP g ws_34 h0 → gN ws_34 h0 12 → va_P (gD g) cl0 ws_34 H → va_D A ws_34 → va_S A s.heap H locs → lv_has ls 4 [(0, .ref h0), (1, .int x1), (2, .int v2_4)] → W p l e (headSpec (wt yX5_raise cX5_raise 4 none) ({ frames := 2, cells := 0, slots := 0, locals := 44 })).room s m ([.ref h0, .int x1] : List Value).toArray below meth c H locs (0) (0) (MQ below (va_Qv (fun (u9 : va_W) => (True) ∧ (gN u9 h0 0) ∧ (gN u9 h0 12) ∧ (frP g u9 h0) ∧ (swU u9 h0) ∧ (swC u9 h0) ∧ (arP g u9 h0)) (gQ1 g [(5, 11), (5, 12), (5, 13), (5, 14), (5, 15), (5, 17), (5, 19)] [(5, 9)] none A ws) A) ([.ref h0, .int x1] : List Value).toArray s (0) (0) A) (F0 m 46 ls []) := by
            intro ws_34 H locs ls  E_35 Fr_36 hG jx_46_0 jx_46_1 jx_46_2 jx_46_3 jx_46_4 hP hD hS hl
            have aa_37 := a_r1_30
            have aa_38 := a_r2_30
            have aa_39 := a_r4_30
            have aa_40 := a_r6_30
            have aa_41 := a_r8_30
            have aa_42 := a_r9_30
            have aa_43 := a_r10_30
            have o_h0 := E_35.1 _ _ o_h0
            obtain ⟨z_44, ez_44⟩ : ∃ z : Int32, v2_4 + Int32.ofInt (-1) = z := ⟨_, rfl⟩
            refine lv_iinc (v := z_44) (lv' := [(2, .int z_44), (0, .ref h0), (1, .int x1)]) hx hb dX5_raise_46 hl (k := 2) rfl ez_44 (by decide) rfl (fun ls hl => ?_)
            refine lv_goto (tgt := 5) hx hb dX5_raise_49 (by decide) ?_
            obtain ⟨fs9, hk_45, hq_45⟩ := ((gF.a (F' := [(5, 11), (5, 12), (5, 13), (5, 14)]) Fr_36 (fun _ h => h))) _ _ _ hk_30
            obtain ⟨v0_45, r1_45, n1_45, r2_45, n2_45, c3_45, r4_45, n4_45, c5_45, r6_45, n6_45, c7_45, r8_45, n8_45, r9_45, n9_45, r10_45, n10_45, c11_45, v12_45, c13_45, c14_45, c15_45, l16_45, c17_45, c18_45, c19_45, rfl, o_v0_45, F_v0_45, a_r1_45, f3_45, a_r2_45, f5_45, a_r4_45, f7_45, a_r6_45, f9_45, a_r8_45, f11_45, a_r9_45, f13_45, a_r10_45, f15_45, o_v12_45, f17_45, f18_45, f19_45, f20_45, f21_45, f22_45, f23_45, f24_45, f25_45, f26_45, f27_45, f28_45, f29_45, f30_45, f31_45, -⟩ := (hG.1 _ _ _ _ hk_45).hX5 rfl
            have hn9 := fe_qr (hq_45 0 (by decide))
            subst hn9
            have o_b_2 := o_v0_45 _ rfl
            have F_b_2 := F_v0_45 _ rfl
            obtain ⟨b_46, hn9⟩ := jx_46_4 _ _ _ hk_45
            have hn9 := fe_qr hn9
            subst hn9
            have o_b_46 := o_v12_45 _ rfl
            exact ih_5 _ (by have e0 : (0 : Int32).toInt = 0 := (by decide); obtain ⟨u_z_44, q_z_44⟩ := i_iz ez_44 (by decide) (by decide); have q_c_15 := i_nlt c_15; have g_v2_4 := i_rg v2_4; have g_z_44 := i_rg z_44; omega) (z_44) ws_34 H locs ls rfl ((E_6.tr E_35)) ((gF.tr Fr_7 Fr_36)) hG jx_46_0 jx_46_1 jx_46_2 jx_46_3 (gN_of hD hk_45 (j := 12) rfl) hP hD hS (lv_sub hl [1, 2, 0] rfl)
          refine lv_if_le (tgt := 46) hx hb dX5_raise_39 (by decide) (fun c_47 => ?_) (fun c_47 => ?_)
          · exact J_46 ws_5 H locs ls (gE.rf) (gF.rf) hG jx_5_0 jx_5_1 jx_5_2 jx_5_3 (gN_of hD hk_30 (j := 12) rfl) hP hD hS (lv_sub hl [1, 2, 3] rfl)
          · refine lv_aload_n hx hb dX5_raise_42 rfl (lv_at hl 1 rfl) ?_
            have hFc := gfree hD hS hA
            refine va_callv (va_runV (As := []) (rest := []) ⟨hx, hb, hml, hown, hts⟩ (m_X5_closeFrame l g H.size ws_5 h0 hG o_h0 (gN_of hD hk_30 (j := 0) rfl) jx_5_0 jx_5_1) (cwV 0 hts (gd_V kw_1086 kw_1023 kw_1024 kw_398 kw_1022) rfl rfl rfl (by decide +kernel) ⟨Nat.le_of_ble_eq_true rfl, Nat.le_of_ble_eq_true rfl⟩) ⟨gblind, va_recv hK hP (ci := 5) (q0 := k_1) rfl hk_30, fun U hU hW9 => gmk hU hW9 hP hK hD hex hE hS hFc⟩ rfl rfl hl.1 rfl (lv_room (Nat.le_of_ble_eq_true rfl)) dX5_raise_43 ⟨Nat.le_of_ble_eq_true rfl, Nat.le_of_ble_eq_true rfl⟩) hS (fun q _ h => hFc q h) hFc (fun  ws_48 t9 H1 locs ht9 hvm9 hw9 hB9 hz9 hk9 hS => ?_)
            obtain ⟨E_49, Fr_50, hG, hP1, hD1⟩ := hB9
            have hP : va_P (gD g) cl0 ws_48 H1 := by rw [← ht9]; exact hP1
            have hD : va_D A ws_48 := hD1.weaken (fun _ _ _ h => hFc _ h)
            obtain ⟨hw9, xp_53, xp_54, xp_55, xp_56, xp_57⟩ := hw9
            clear hP1 hD1 hz9 hk9 hvm9 ht9 hw9
            generalize H1 = H at hP hS ⊢
            have aa_58 := a_r1_30
            have aa_59 := a_r2_30
            have aa_60 := a_r4_30
            have aa_61 := a_r6_30
            have aa_62 := a_r8_30
            have aa_63 := a_r9_30
            have aa_64 := a_r10_30
            have o_h0 := E_49.1 _ _ o_h0
            obtain ⟨fs9, hk_65, hq_65⟩ := ((gF.a (F' := [(5, 11), (5, 12), (5, 13), (5, 14)]) Fr_50 (fun _ h => h))) _ _ _ hk_30
            obtain ⟨v0_65, r1_65, n1_65, r2_65, n2_65, c3_65, r4_65, n4_65, c5_65, r6_65, n6_65, c7_65, r8_65, n8_65, r9_65, n9_65, r10_65, n10_65, c11_65, v12_65, c13_65, c14_65, c15_65, l16_65, c17_65, c18_65, c19_65, rfl, o_v0_65, F_v0_65, a_r1_65, f3_65, a_r2_65, f5_65, a_r4_65, f7_65, a_r6_65, f9_65, a_r8_65, f11_65, a_r9_65, f13_65, a_r10_65, f15_65, o_v12_65, f17_65, f18_65, f19_65, f20_65, f21_65, f22_65, f23_65, f24_65, f25_65, f26_65, f27_65, f28_65, f29_65, f30_65, f31_65, -⟩ := (hG.1 _ _ _ _ hk_65).hX5 rfl
            have hn9 := fe_qr (hq_65 0 (by decide))
            subst hn9
            have o_b_2 := o_v0_65 _ rfl
            have F_b_2 := F_v0_65 _ rfl
            obtain ⟨b_66, hn9⟩ := xp_54 _ _ _ hk_65
            have hn9 := fe_qr hn9
            subst hn9
            have o_b_66 := o_v12_65 _ rfl
            have tq_67 : arP g ws_48 h0 := arP_mo (Fr_50) (E_49) (by decide) (by decide) jx_5_3
            exact J_46 ws_48 H locs ls (E_49) (Fr_50) hG xp_55 xp_56 xp_57 tq_67 (gN_of hD hk_65 (j := 12) rfl) hP hD hS (lv_sub hl [1, 2, 3] rfl)
        · refine lv_aload_n hx hb dX5_raise_19 rfl (lv_at hl 1 rfl) ?_
          refine lv_iload_n hx hb dX5_raise_20 rfl (lv_at hl 0 rfl) ?_
          have hV9 : okv ws_5 5 13 (.int r_32) := okv_i
          refine va_put (D := gD g) (ci := 5) (v := .int r_32) (ty := .int) (C := RX5) (T := TX5) (N := 20) hx hb hts inX5 tyX5 tyX5_ok nmX5 hown hK hP hD hS k_1 hk_30 rfl 13 (by decide) (hts _ kw_1021) (fun _ h9 => h9) rfl (by decide +kernel) rfl rfl (Nat.le_of_ble_eq_true rfl) dX5_raise_21 (fun H locs hP hD hS => ?_)
          have hi_68 : invX5 g ws_5 h0 [.ref b_2, .ref r1_30, .ref r2_30, .int c3_30, .ref r4_30, .int c5_30, .ref r6_30, .int c7_30, .ref r8_30, .ref r9_30, .ref r10_30, .int c11_30, .ref b_31, .int r_32, .int c14_30, .int c15_30, .long l16_30, .int c17_30, .int c18_30, .int c19_30] := ⟨(some b_2), r1_30, (n1_30), r2_30, (n2_30), (c3_30), r4_30, (n4_30), (c5_30), r6_30, (n6_30), (c7_30), r8_30, (n8_30), r9_30, (n9_30), r10_30, (n10_30), (c11_30), (some b_31), (r_32), (c14_30), (c15_30), (l16_30), (c17_30), (c18_30), (c19_30), rfl, (fun b h9 => by cases h9; exact o_b_2), (fun b h9 => by cases h9; exact F_b_2), a_r1_30, f3_30, a_r2_30, f5_30, a_r4_30, f7_30, a_r6_30, f9_30, a_r8_30, f11_30, a_r9_30, f13_30, a_r10_30, f15_30, (fun b h9 => by cases h9; exact o_b_31), f17_30, f18_30, f19_30, f20_30, f21_30, f22_30, f23_30, f24_30, f25_30, f26_30, f27_30, f28_30, f29_30, f30_30, f31_30, trivial⟩
          obtain ⟨ws_69, e_ws_69⟩ : ∃ z, z = ws_5.set k_1 (h0, .inr (5, [.ref b_2, .ref r1_30, .ref r2_30, .int c3_30, .ref r4_30, .int c5_30, .ref r6_30, .int c7_30, .ref r8_30, .ref r9_30, .ref r10_30, .int c11_30, .ref b_31, .int r_32, .int c14_30, .int c15_30, .long l16_30, .int c17_30, .int c18_30, .int c19_30])) := ⟨_, rfl⟩
          have hP : va_P (gD g) cl0 ws_69 H := by rw [e_ws_69]; exact hP
          have hD : va_D A ws_69 := by rw [e_ws_69]; exact hD
          have E_70 : gE ws_5 ws_69 := gE_set e_ws_69 hk_30 (cw_o (fi := 13) (v := .int r_32) rfl (by decide))
          have hG : Good g ws_69 := Good_set (fi := 13) (v := .int r_32) e_ws_69 hk_30 E_70 rfl hV9 hG (ivX5 hi_68)
          have Fr_71 : gF [(5, 13)] [] (some h0) ws_5 ws_69 := gF_put (fi := 13) (v := .int r_32) e_ws_69 hk_30 rfl (by decide)
          have hkN := gset_self e_ws_69 hk_30
          have hk_30 := hkN
          have o_h0 := E_70.1 _ _ o_h0
          have a_r1_30 := E_70.1 _ _ a_r1_30
          have a_r2_30 := E_70.1 _ _ a_r2_30
          have a_r4_30 := E_70.1 _ _ a_r4_30
          have a_r6_30 := E_70.1 _ _ a_r6_30
          have a_r8_30 := E_70.1 _ _ a_r8_30
          have a_r9_30 := E_70.1 _ _ a_r9_30
          have a_r10_30 := E_70.1 _ _ a_r10_30
          have o_b_2 := E_70.1 _ _ o_b_2
          have F_b_2 := F_b_2.mo E_70
          have o_b_31 := E_70.1 _ _ o_b_31
          refine lv_aload_n hx hb dX5_raise_24 rfl (lv_at hl 1 rfl) ?_
          refine lv_iconst (v := 0) hx hb dX5_raise_25 (by decide) ?_
          have hV9 : okv ws_69 5 14 (.int 0) := okv_i
          refine va_put (D := gD g) (ci := 5) (v := .int 0) (ty := .int) (C := RX5) (T := TX5) (N := 20) hx hb hts inX5 tyX5 tyX5_ok nmX5 hown hK hP hD hS k_1 hk_30 rfl 14 (by decide) (hts _ kw_1031) (fun _ h9 => h9) rfl (by decide +kernel) rfl rfl (Nat.le_of_ble_eq_true rfl) dX5_raise_26 (fun H locs hP hD hS => ?_)
          have hi_72 : invX5 g ws_69 h0 [.ref b_2, .ref r1_30, .ref r2_30, .int c3_30, .ref r4_30, .int c5_30, .ref r6_30, .int c7_30, .ref r8_30, .ref r9_30, .ref r10_30, .int c11_30, .ref b_31, .int r_32, .int 0, .int c15_30, .long l16_30, .int c17_30, .int c18_30, .int c19_30] := ⟨(some b_2), r1_30, (n1_30), r2_30, (n2_30), (c3_30), r4_30, (n4_30), (c5_30), r6_30, (n6_30), (c7_30), r8_30, (n8_30), r9_30, (n9_30), r10_30, (n10_30), (c11_30), (some b_31), (r_32), (0), (c15_30), (l16_30), (c17_30), (c18_30), (c19_30), rfl, (fun b h9 => by cases h9; exact o_b_2), (fun b h9 => by cases h9; exact F_b_2), a_r1_30, f3_30, a_r2_30, f5_30, a_r4_30, f7_30, a_r6_30, f9_30, a_r8_30, f11_30, a_r9_30, f13_30, a_r10_30, f15_30, (fun b h9 => by cases h9; exact o_b_31), f17_30, f18_30, f19_30, f20_30, f21_30, f22_30, f23_30, f24_30, f25_30, f26_30, f27_30, f28_30, f29_30, f30_30, f31_30, trivial⟩
          obtain ⟨ws_73, e_ws_73⟩ : ∃ z, z = ws_69.set k_1 (h0, .inr (5, [.ref b_2, .ref r1_30, .ref r2_30, .int c3_30, .ref r4_30, .int c5_30, .ref r6_30, .int c7_30, .ref r8_30, .ref r9_30, .ref r10_30, .int c11_30, .ref b_31, .int r_32, .int 0, .int c15_30, .long l16_30, .int c17_30, .int c18_30, .int c19_30])) := ⟨_, rfl⟩
          have hP : va_P (gD g) cl0 ws_73 H := by rw [e_ws_73]; exact hP
          have hD : va_D A ws_73 := by rw [e_ws_73]; exact hD
          have E_74 : gE ws_69 ws_73 := gE_set e_ws_73 hk_30 (cw_o (fi := 14) (v := .int 0) rfl (by decide))
          have hG : Good g ws_73 := Good_set (fi := 14) (v := .int 0) e_ws_73 hk_30 E_74 rfl hV9 hG (ivX5 hi_72)
          have Fr_75 : gF [(5, 14)] [] (some h0) ws_69 ws_73 := gF_put (fi := 14) (v := .int 0) e_ws_73 hk_30 rfl (by decide)
          have hkN := gset_self e_ws_73 hk_30
          have hk_30 := hkN
          have o_h0 := E_74.1 _ _ o_h0
          have a_r1_30 := E_74.1 _ _ a_r1_30
          have a_r2_30 := E_74.1 _ _ a_r2_30
          have a_r4_30 := E_74.1 _ _ a_r4_30
          have a_r6_30 := E_74.1 _ _ a_r6_30
          have a_r8_30 := E_74.1 _ _ a_r8_30
          have a_r9_30 := E_74.1 _ _ a_r9_30
          have a_r10_30 := E_74.1 _ _ a_r10_30
          have o_b_2 := E_74.1 _ _ o_b_2
          have F_b_2 := F_b_2.mo E_74
          have o_b_31 := E_74.1 _ _ o_b_31
          refine lv_aload_n hx hb dX5_raise_29 rfl (lv_at hl 1 rfl) ?_
          refine lv_iconst (v := (-1)) hx hb dX5_raise_30 (by decide) ?_
          refine lv_iload_n hx hb dX5_raise_31 rfl (lv_at hl 2 rfl) ?_
          refine lv_isub hx hb dX5_raise_32 ?_
          refine lv_topi (fun z_76 ez_76 => ?_)
          obtain ⟨z_77, ez_77⟩ : ∃ y : Int64, (z_76 : Int32).toInt64 = y := ⟨_, rfl⟩
          refine lv_i2l (v := z_77) hx hb dX5_raise_33 ez_77 ?_
          have hFc := gfree hD hS hA
          refine va_callv (va_runV (As := [.long z_77]) (rest := []) ⟨hx, hb, hml, hown, hts⟩ (m_X5_push l g H.size ws_73 h0 (z_77) hG o_h0) (cwV 1 hts (gd_V kw_1099 kw_1130 kw_1131 kw_398 kw_1129) rfl rfl rfl (by decide +kernel) ⟨Nat.le_of_ble_eq_true rfl, Nat.le_of_ble_eq_true rfl⟩) ⟨gblind, va_recv hK hP (ci := 5) (q0 := k_1) rfl hk_30, fun U hU hW9 => gmk hU hW9 hP hK hD hex hE hS hFc⟩ rfl rfl hl.1 rfl (lv_room (Nat.le_of_ble_eq_true rfl)) dX5_raise_34 ⟨Nat.le_of_ble_eq_true rfl, Nat.le_of_ble_eq_true rfl⟩) hS (fun q _ h => hFc q h) hFc (fun  ws_78 t9 H1 locs ht9 hvm9 hw9 hB9 hz9 hk9 hS => ?_)
          obtain ⟨E_79, Fr_80, hG, hP1, hD1⟩ := hB9
          have hP : va_P (gD g) cl0 ws_78 H1 := by rw [← ht9]; exact hP1
          have hD : va_D A ws_78 := hD1.weaken (fun _ _ _ h => hFc _ h)
          clear hP1 hD1 hz9 hk9 hvm9 ht9 hw9
          generalize H1 = H at hP hS ⊢
          have aa_83 := a_r1_30
          have aa_84 := a_r2_30
          have aa_85 := a_r4_30
          have aa_86 := a_r6_30
          have aa_87 := a_r8_30
          have aa_88 := a_r9_30
          have aa_89 := a_r10_30
          have o_h0 := E_79.1 _ _ o_h0
          refine W.widen (k := 0) (n := 0) (Nat.le_of_ble_eq_true rfl) (Nat.le_of_ble_eq_true rfl) ?_
          obtain ⟨fs9, hk_90, hq_90⟩ := ((gF.a (F' := [(5, 14), (5, 19)]) Fr_80 (fun _ h => h))) _ _ _ hk_30
          obtain ⟨v0_90, r1_90, n1_90, r2_90, n2_90, c3_90, r4_90, n4_90, c5_90, r6_90, n6_90, c7_90, r8_90, n8_90, r9_90, n9_90, r10_90, n10_90, c11_90, v12_90, c13_90, c14_90, c15_90, l16_90, c17_90, c18_90, c19_90, rfl, o_v0_90, F_v0_90, a_r1_90, f3_90, a_r2_90, f5_90, a_r4_90, f7_90, a_r6_90, f9_90, a_r8_90, f11_90, a_r9_90, f13_90, a_r10_90, f15_90, o_v12_90, f17_90, f18_90, f19_90, f20_90, f21_90, f22_90, f23_90, f24_90, f25_90, f26_90, f27_90, f28_90, f29_90, f30_90, f31_90, -⟩ := (hG.1 _ _ _ _ hk_90).hX5 rfl
          have hn9 := fe_qr (hq_90 0 (by decide))
          subst hn9
          have o_b_2 := o_v0_90 _ rfl
          have F_b_2 := F_v0_90 _ rfl
          obtain rfl := fe_i (hq_90 11 (by decide))
          have hn9 := fe_qr (hq_90 12 (by decide))
          subst hn9
          have o_b_31 := o_v12_90 _ rfl
          have tq_91 : frP g ws_78 h0 := frP_mo ((gF.tr (gF.mo (F' := [(5, 13), (5, 14), (5, 19)]) (C' := [(5, 9)]) (S' := none) Fr_71 (by decide) (fun _ h => absurd h List.not_mem_nil) (Or.inl rfl)) (gF.tr (gF.mo (F' := [(5, 13), (5, 14), (5, 19)]) (C' := [(5, 9)]) (S' := none) Fr_75 (by decide) (fun _ h => absurd h List.not_mem_nil) (Or.inl rfl)) (gF.mo (F' := [(5, 13), (5, 14), (5, 19)]) (C' := [(5, 9)]) (S' := none) Fr_80 (by decide) (fun _ h => h) (Or.inr rfl))))) (by decide) (by decide) (by decide) (by decide) (by decide) jx_5_0
          have tq_92 : swU ws_78 h0 := swU_mo ((gF.tr (gF.mo (F' := [(5, 13), (5, 14), (5, 19)]) (C' := [(5, 9)]) (S' := none) Fr_71 (by decide) (fun _ h => absurd h List.not_mem_nil) (Or.inl rfl)) (gF.tr (gF.mo (F' := [(5, 13), (5, 14), (5, 19)]) (C' := [(5, 9)]) (S' := none) Fr_75 (by decide) (fun _ h => absurd h List.not_mem_nil) (Or.inl rfl)) (gF.mo (F' := [(5, 13), (5, 14), (5, 19)]) (C' := [(5, 9)]) (S' := none) Fr_80 (by decide) (fun _ h => h) (Or.inr rfl))))) (by decide) (by decide) (by decide) (by decide) (by decide) (by decide) (by decide) (by decide) (by decide) (by decide) (by decide) jx_5_1
          have tq_93 : swC ws_78 h0 := swC_mo ((gF.tr (gF.mo (F' := [(5, 13), (5, 14), (5, 19)]) (C' := [(5, 9)]) (S' := none) Fr_71 (by decide) (fun _ h => absurd h List.not_mem_nil) (Or.inl rfl)) (gF.tr (gF.mo (F' := [(5, 13), (5, 14), (5, 19)]) (C' := [(5, 9)]) (S' := none) Fr_75 (by decide) (fun _ h => absurd h List.not_mem_nil) (Or.inl rfl)) (gF.mo (F' := [(5, 13), (5, 14), (5, 19)]) (C' := [(5, 9)]) (S' := none) Fr_80 (by decide) (fun _ h => h) (Or.inr rfl))))) (by decide) (by decide) (by decide) (by decide) (by decide) (by decide) (by decide) (by decide) (by decide) jx_5_2
          have tq_94 : arP g ws_78 h0 := arP_mo ((gF.tr (gF.mo (F' := [(5, 13), (5, 14), (5, 19)]) (C' := [(5, 9)]) (S' := none) Fr_71 (by decide) (fun _ h => absurd h List.not_mem_nil) (Or.inl rfl)) (gF.tr (gF.mo (F' := [(5, 13), (5, 14), (5, 19)]) (C' := [(5, 9)]) (S' := none) Fr_75 (by decide) (fun _ h => absurd h List.not_mem_nil) (Or.inl rfl)) (gF.mo (F' := [(5, 13), (5, 14), (5, 19)]) (C' := [(5, 9)]) (S' := none) Fr_80 (by decide) (fun _ h => h) (Or.inr rfl))))) ((E_70.tr (E_74.tr E_79))) (by decide) (by decide) jx_5_3
          exact W.vret hx hb hr (fun t9 ht9 hW9 => ⟨⟨ws_78, rfl, ⟨trivial, (gN_of hD hk_90 (j := 0) rfl), (gN_of hD hk_90 (j := 12) rfl), tq_91, tq_92, tq_93, tq_94⟩, ⟨(E_6.tr (E_70.tr (E_74.tr E_79))), (gF.tr (gF.mo (F' := [(5, 11), (5, 12), (5, 13), (5, 14), (5, 15), (5, 17), (5, 19)]) (C' := [(5, 9)]) (S' := none) Fr_7 (by decide) (fun _ h => absurd h List.not_mem_nil) (Or.inr rfl)) (gF.tr (gF.mo (F' := [(5, 11), (5, 12), (5, 13), (5, 14), (5, 15), (5, 17), (5, 19)]) (C' := [(5, 9)]) (S' := none) Fr_71 (by decide) (fun _ h => absurd h List.not_mem_nil) (Or.inl rfl)) (gF.tr (gF.mo (F' := [(5, 11), (5, 12), (5, 13), (5, 14), (5, 15), (5, 17), (5, 19)]) (C' := [(5, 9)]) (S' := none) Fr_75 (by decide) (fun _ h => absurd h List.not_mem_nil) (Or.inl rfl)) (gF.mo (F' := [(5, 11), (5, 12), (5, 13), (5, 14), (5, 15), (5, 17), (5, 19)]) (C' := [(5, 9)]) (S' := none) Fr_80 (by decide) (fun _ h => h) (Or.inr rfl))))), hG, by rw [ht9]; exact hP, hD⟩⟩, hS.F ht9⟩) hS.2.2 dX5_raise_37
  exact J_5 _ (c11_1) ws _ _ ls rfl (gE.rf) (gF.rf) hG tk0 tk1 tk2 tk3 (gN_of hD hk_1 (j := 12) rfl) hP hD hS (lv_sub hl [1, 2, 0] rfl)
set_option maxHeartbeats 1000000 in
set_option maxRecDepth 100000 in
theorem m_X5_calculate (l : Launch) (g : Gm) (sz : Nat) (ws : va_W) (h0 : Nat) (x1 : Int32) (hG : Good g ws) (o_h0 : gC ws h0 5) (nn_h0_0 : gN ws h0 0) (nn_h0_12 : gN ws h0 12) (tk0 : frP g ws h0) (tk1 : swU ws h0) (tk2 : swC ws h0) (tk3 : arP g ws h0) : Met l yX5_calculate (wt yX5_calculate cX5_calculate 7 none) ({ frames := 3, cells := 0, slots := 0, locals := 67 }) (va_Pc [.ref h0, .int x1] (st_G g sz ws)) (va_Qv (fun (u9 : va_W) => (True) ∧ (gN u9 h0 0) ∧ (gN u9 h0 12) ∧ (frP g u9 h0) ∧ (swU u9 h0) ∧ (swC u9 h0) ∧ (arP g u9 h0)) (gQ1 g [(5, 11), (5, 12), (5, 13), (5, 14), (5, 15), (5, 17), (5, 19)] [(5, 9)] none (va_A ws sz) ws) (va_A ws sz)) (0) (0) (va_A ws sz) := by
  refine Met.ofW (cc := cX5_calculate) (maxL := 7) (ret := none) (by decide) rfl ?_
  intro p e s m args below meth c s₁ B hml hv
  obtain ⟨rfl, hsz, hP, hK, hD0, hex, hE⟩ := hv
  have hx := B.exec
  have hb := B.bytes
  have hr := B.returns
  have hts0 := atoms_spec (ws := wt yX5_calculate cX5_calculate 7 none) B.pre
  have hts : ∀ w ∈ tb, w.before _ s = true := fun w h => hts0 w (List.mem_cons_of_mem _ h)
  have hown : s.vm.findClass RX5 = some m.cls := findClass_of_methodNamed B.named
  subst hsz
  have hD := hD0.self (sz := s.heap.size)
  generalize hAe : va_A ws s.heap.size = A at hD hE ⊢
  have hA : ∀ q : Nat, s.heap.size ≤ q → A q := fun q h => by rw [← hAe]; exact Or.inr h
  have hS : va_S A s.heap s.heap [] := va_S.rf
  have hl := lv_entry ([.ref h0, .int x1]) (n := 7) (Nat.le_of_ble_eq_true rfl)
  rw [lg_entry_eq]
  generalize (lg_sl ([.ref h0, .int x1]) ++ List.replicate (7 - (lg_sl ([.ref h0, .int x1])).length) Slot.unset).toArray = ls at hl ⊢
  have hl : lv_has ls 7 [(0, .ref h0), (1, .int x1)] := hl
  obtain ⟨k_1, fs9, hk_1⟩ := gC_of o_h0
  obtain ⟨v0_1, r1_1, n1_1, r2_1, n2_1, c3_1, r4_1, n4_1, c5_1, r6_1, n6_1, c7_1, r8_1, n8_1, r9_1, n9_1, r10_1, n10_1, c11_1, v12_1, c13_1, c14_1, c15_1, l16_1, c17_1, c18_1, c19_1, rfl, o_v0_1, F_v0_1, a_r1_1, f3_1, a_r2_1, f5_1, a_r4_1, f7_1, a_r6_1, f9_1, a_r8_1, f11_1, a_r9_1, f13_1, a_r10_1, f15_1, o_v12_1, f17_1, f18_1, f19_1, f20_1, f21_1, f22_1, f23_1, f24_1, f25_1, f26_1, f27_1, f28_1, f29_1, f30_1, f31_1, -⟩ := (hG.1 _ _ _ _ hk_1).hX5 rfl
  obtain ⟨b_2, hn9⟩ := nn_h0_0 _ _ _ hk_1
  have hn9 := fe_qr hn9
  subst hn9
  have o_b_2 := o_v0_1 _ rfl
  have F_b_2 := F_v0_1 _ rfl
  obtain ⟨b_3, hn9⟩ := nn_h0_12 _ _ _ hk_1
  have hn9 := fe_qr hn9
  subst hn9
  have o_b_3 := o_v12_1 _ rfl
  refine lv_iload_n hx hb dX5_calculate_0 rfl (lv_at hl 1 rfl) ?_
  have hFc := gfree hD hS hA
  refine va_calli (va_runS (As := [.int x1]) (rest := []) ⟨hx, hb, hml, hown, hts⟩ (m_X6_takes l g s.heap.size ws (x1) hG ) (va_cwS 1 hts (gd_S kw_1014 kw_1255 kw_1207 kw_1254) rfl rfl rfl (by decide +kernel) ⟨Nat.le_of_ble_eq_true rfl, Nat.le_of_ble_eq_true rfl⟩) ⟨gblind, fun U hU hW9 => gmk hU hW9 hP hK hD hex hE hS hFc⟩ rfl rfl hl.1 rfl (lv_room (Nat.le_of_ble_eq_true rfl)) dX5_calculate_1 ⟨Nat.le_of_ble_eq_true rfl, Nat.le_of_ble_eq_true rfl⟩) hS (fun q _ h => hFc q h) hFc (fun r_4 u9 t9 H1 locs ht9 hvm9 hw9 hB9 hz9 hk9 hS => ?_)
  have hP : va_P (gD g) cl0 ws H1 := by rw [← ht9]; exact hB9.1
  clear hB9 hz9 hk9 hvm9 ht9 hw9
  generalize H1 = H at hP hS ⊢
  refine lv_istore_n (lv' := [(2, .int r_4), (0, .ref h0), (1, .int x1)]) hx hb dX5_calculate_4 rfl hl (by decide) rfl (fun ls hl => ?_)
  refine lv_aload_n hx hb dX5_calculate_5 rfl (lv_at hl 1 rfl) ?_
  refine lv_iload_n hx hb dX5_calculate_6 rfl (lv_at hl 0 rfl) ?_
  refine lv_bipush (v := 15) hx hb dX5_calculate_7 (by decide) ?_
  refine lv_iand hx hb dX5_calculate_9 ?_
  refine lv_topi (fun z_5 ez_5 => ?_)
  have hFc := gfree hD hS hA
  refine va_calll (va_runV (As := [.int z_5]) (rest := []) ⟨hx, hb, hml, hown, hts⟩ (m_X5_pop_ l g H.size ws h0 (z_5) hG o_h0) (cwV 1 hts (gd_V kw_1015 kw_1127 kw_1128 kw_398 kw_1126) rfl rfl rfl (by decide +kernel) ⟨Nat.le_of_ble_eq_true rfl, Nat.le_of_ble_eq_true rfl⟩) ⟨gblind, va_recv hK hP (ci := 5) (q0 := k_1) rfl hk_1, fun U hU hW9 => gmk hU hW9 hP hK hD hex hE hS hFc⟩ rfl rfl hl.1 rfl (lv_room (Nat.le_of_ble_eq_true rfl)) dX5_calculate_10 ⟨Nat.le_of_ble_eq_true rfl, Nat.le_of_ble_eq_true rfl⟩) hS (fun q _ h => hFc q h) hFc (fun r_6 ws_7 t9 H1 locs ht9 hvm9 hw9 hB9 hz9 hk9 hS => ?_)
  obtain ⟨E_8, Fr_9, hG, hP1, hD1⟩ := hB9
  have hP : va_P (gD g) cl0 ws_7 H1 := by rw [← ht9]; exact hP1
  have hD : va_D A ws_7 := hD1.weaken (fun _ _ _ h => hFc _ h)
  clear hP1 hD1 hz9 hk9 hvm9 ht9 hw9
  generalize H1 = H at hP hS ⊢
  have aa_12 := a_r1_1
  have aa_13 := a_r2_1
  have aa_14 := a_r4_1
  have aa_15 := a_r6_1
  have aa_16 := a_r8_1
  have aa_17 := a_r9_1
  have aa_18 := a_r10_1
  have o_h0 := E_8.1 _ _ o_h0
  refine lv_lstore_n (lv' := [(3, .long r_6), (2, .int r_4), (0, .ref h0), (1, .int x1)]) hx hb dX5_calculate_13 rfl hl (by decide) rfl (fun ls hl => ?_)
  refine lv_aload_n hx hb dX5_calculate_14 rfl (lv_at hl 2 rfl) ?_
  refine lv_iload_n hx hb dX5_calculate_15 rfl (lv_at hl 1 rfl) ?_
  refine lv_iconst (v := 4) hx hb dX5_calculate_16 (by decide) ?_
  refine lv_ishr hx hb dX5_calculate_17 ?_
  refine lv_topi (fun z_19 ez_19 => ?_)
  have hFc := gfree hD hS hA
  obtain ⟨k_20, fs_20, hk_20⟩ := gC_of o_h0
  refine va_calll (va_runV (As := [.int z_19]) (rest := []) ⟨hx, hb, hml, hown, hts⟩ (m_X5_pop_ l g H.size ws_7 h0 (z_19) hG o_h0) (cwV 1 hts (gd_V kw_1015 kw_1127 kw_1128 kw_398 kw_1126) rfl rfl rfl (by decide +kernel) ⟨Nat.le_of_ble_eq_true rfl, Nat.le_of_ble_eq_true rfl⟩) ⟨gblind, va_recv hK hP (ci := 5) (q0 := k_20) rfl hk_20, fun U hU hW9 => gmk hU hW9 hP hK hD hex hE hS hFc⟩ rfl rfl hl.1 rfl (lv_room (Nat.le_of_ble_eq_true rfl)) dX5_calculate_18 ⟨Nat.le_of_ble_eq_true rfl, Nat.le_of_ble_eq_true rfl⟩) hS (fun q _ h => hFc q h) hFc (fun r_21 ws_22 t9 H1 locs ht9 hvm9 hw9 hB9 hz9 hk9 hS => ?_)
  obtain ⟨E_23, Fr_24, hG, hP1, hD1⟩ := hB9
  have hP : va_P (gD g) cl0 ws_22 H1 := by rw [← ht9]; exact hP1
  have hD : va_D A ws_22 := hD1.weaken (fun _ _ _ h => hFc _ h)
  clear hP1 hD1 hz9 hk9 hvm9 ht9 hw9
  generalize H1 = H at hP hS ⊢
  have o_h0 := E_23.1 _ _ o_h0
  refine lv_lstore (lv' := [(5, .long r_21), (3, .long r_6), (2, .int r_4), (0, .ref h0), (1, .int x1)]) hx hb dX5_calculate_21 hl (by decide) rfl (fun ls hl => ?_)
  refine lv_iload_n hx hb dX5_calculate_23 rfl (lv_at hl 4 rfl) ?_
  have hFc := gfree hD hS hA
  refine va_calli (va_runS (As := [.int x1]) (rest := []) ⟨hx, hb, hml, hown, hts⟩ (m_X6_isDivision l g H.size ws_22 (x1) hG ) (va_cwS 1 hts (gd_S kw_1016 kw_1223 kw_1207 kw_1222) rfl rfl rfl (by decide +kernel) ⟨Nat.le_of_ble_eq_true rfl, Nat.le_of_ble_eq_true rfl⟩) ⟨gblind, fun U hU hW9 => gmk hU hW9 hP hK hD hex hE hS hFc⟩ rfl rfl hl.1 rfl (lv_room (Nat.le_of_ble_eq_true rfl)) dX5_calculate_24 ⟨Nat.le_of_ble_eq_true rfl, Nat.le_of_ble_eq_true rfl⟩) hS (fun q _ h => hFc q h) hFc (fun r_27 u9 t9 H1 locs ht9 hvm9 hw9 hB9 hz9 hk9 hS => ?_)
  have hP : va_P (gD g) cl0 ws_22 H1 := by rw [← ht9]; exact hB9.1
  have hz_r_27 : r_27 = 0 ∨ r_27 = 1 := hw9
  clear hB9 hz9 hk9 hvm9 ht9 hw9
  generalize H1 = H at hP hS ⊢
  have J_42 : ∀  (H : Heap) (locs : List Loc) (ls : Array Slot), va_P (gD g) cl0 ws_22 H → va_D A ws_22 → va_S A s.heap H locs → lv_has ls 7 [(0, .ref h0), (1, .int x1), (3, .long r_6), (5, .long r_21)] → W p l e (headSpec (wt yX5_calculate cX5_calculate 7 none) ({ frames := 3, cells := 0, slots := 0, locals := 67 })).room s m ([.ref h0, .int x1] : List Value).toArray below meth c H locs (0) (0) (MQ below (va_Qv (fun (u9 : va_W) => (True) ∧ (gN u9 h0 0) ∧ (gN u9 h0 12) ∧ (frP g u9 h0) ∧ (swU u9 h0) ∧ (swC u9 h0) ∧ (arP g u9 h0)) (gQ1 g [(5, 11), (5, 12), (5, 13), (5, 14), (5, 15), (5, 17), (5, 19)] [(5, 9)] none A ws) A) ([.ref h0, .int x1] : List Value).toArray s (0) (0) A) (F0 m 42 ls []) := by
    intro  H locs ls  hP hD hS hl
    refine lv_aload_n hx hb dX5_calculate_42 rfl (lv_at hl 0 rfl) ?_
    refine lv_iload_n hx hb dX5_calculate_43 rfl (lv_at hl 1 rfl) ?_
    have hFc := gfree hD hS hA
    refine va_calli (va_runS (As := [.int x1]) (rest := [.ref h0]) ⟨hx, hb, hml, hown, hts⟩ (m_X6_gives l g H.size ws_22 (x1) hG ) (va_cwS 1 hts (gd_S kw_1018 kw_1216 kw_1207 kw_1215) rfl rfl rfl (by decide +kernel) ⟨Nat.le_of_ble_eq_true rfl, Nat.le_of_ble_eq_true rfl⟩) ⟨gblind, fun U hU hW9 => gmk hU hW9 hP hK hD hex hE hS hFc⟩ rfl rfl hl.1 rfl (lv_room (Nat.le_of_ble_eq_true rfl)) dX5_calculate_44 ⟨Nat.le_of_ble_eq_true rfl, Nat.le_of_ble_eq_true rfl⟩) hS (fun q _ h => hFc q h) hFc (fun r_30 u9 t9 H1 locs ht9 hvm9 hw9 hB9 hz9 hk9 hS => ?_)
    have hP : va_P (gD g) cl0 ws_22 H1 := by rw [← ht9]; exact hB9.1
    clear hB9 hz9 hk9 hvm9 ht9 hw9
    generalize H1 = H at hP hS ⊢
    refine lv_iload_n hx hb dX5_calculate_47 rfl (lv_at hl 1 rfl) ?_
    refine lv_lload hx hb dX5_calculate_48 (lv_at hl 3 rfl) ?_
    refine lv_lload_n hx hb dX5_calculate_50 rfl (lv_at hl 2 rfl) ?_
    have hFc := gfree hD hS hA
    refine va_calll (va_runS (As := [.int x1, .long r_21, .long r_6]) (rest := [.int r_30, .ref h0]) ⟨hx, hb, hml, hown, hts⟩ (m_X6_binary l g H.size ws_22 (x1) (r_21) (r_6) hG ) (va_cwS 3 hts (gd_S kw_1019 kw_1206 kw_1207 kw_1205) rfl rfl rfl (by decide +kernel) ⟨Nat.le_of_ble_eq_true rfl, Nat.le_of_ble_eq_true rfl⟩) ⟨gblind, fun U hU hW9 => gmk hU hW9 hP hK hD hex hE hS hFc⟩ rfl rfl hl.1 rfl (lv_room (Nat.le_of_ble_eq_true rfl)) dX5_calculate_51 ⟨Nat.le_of_ble_eq_true rfl, Nat.le_of_ble_eq_true rfl⟩) hS (fun q _ h => hFc q h) hFc (fun r_31 u9 t9 H1 locs ht9 hvm9 hw9 hB9 hz9 hk9 hS => ?_)
    have hP : va_P (gD g) cl0 ws_22 H1 := by rw [← ht9]; exact hB9.1
    clear hB9 hz9 hk9 hvm9 ht9 hw9
    generalize H1 = H at hP hS ⊢
    have hFc := gfree hD hS hA
    obtain ⟨k_32, fs_32, hk_32⟩ := gC_of o_h0
    refine va_callv (va_runV (As := [.int r_30, .long r_31]) (rest := []) ⟨hx, hb, hml, hown, hts⟩ (m_X5_push_ l g H.size ws_22 h0 (r_30) (r_31) hG o_h0) (cwV 2 hts (gd_V kw_1020 kw_1133 kw_1134 kw_398 kw_1132) rfl rfl rfl (by decide +kernel) ⟨Nat.le_of_ble_eq_true rfl, Nat.le_of_ble_eq_true rfl⟩) ⟨gblind, va_recv hK hP (ci := 5) (q0 := k_32) rfl hk_32, fun U hU hW9 => gmk hU hW9 hP hK hD hex hE hS hFc⟩ rfl rfl hl.1 rfl (lv_room (Nat.le_of_ble_eq_true rfl)) dX5_calculate_54 ⟨Nat.le_of_ble_eq_true rfl, Nat.le_of_ble_eq_true rfl⟩) hS (fun q _ h => hFc q h) hFc (fun  ws_33 t9 H1 locs ht9 hvm9 hw9 hB9 hz9 hk9 hS => ?_)
    obtain ⟨E_34, Fr_35, hG, hP1, hD1⟩ := hB9
    have hP : va_P (gD g) cl0 ws_33 H1 := by rw [← ht9]; exact hP1
    have hD : va_D A ws_33 := hD1.weaken (fun _ _ _ h => hFc _ h)
    clear hP1 hD1 hz9 hk9 hvm9 ht9 hw9
    generalize H1 = H at hP hS ⊢
    have o_h0 := E_34.1 _ _ o_h0
    refine lv_aload_n hx hb dX5_calculate_57 rfl (lv_at hl 0 rfl) ?_
    refine lv_dup hx hb dX5_calculate_58 rfl ?_
    obtain ⟨fs9, hk_38, hq_38⟩ := ((gA.tr (gF.a (F' := [(5, 14), (5, 19)]) Fr_9 (fun _ h => h)) (gA.tr (gF.a (F' := [(5, 14), (5, 19)]) Fr_24 (fun _ h => h)) (gF.a (F' := [(5, 14), (5, 19)]) Fr_35 (fun _ h => h))))) _ _ _ hk_1
    obtain ⟨v0_38, r1_38, n1_38, r2_38, n2_38, c3_38, r4_38, n4_38, c5_38, r6_38, n6_38, c7_38, r8_38, n8_38, r9_38, n9_38, r10_38, n10_38, c11_38, v12_38, c13_38, c14_38, c15_38, l16_38, c17_38, c18_38, c19_38, rfl, o_v0_38, F_v0_38, a_r1_38, f3_38, a_r2_38, f5_38, a_r4_38, f7_38, a_r6_38, f9_38, a_r8_38, f11_38, a_r9_38, f13_38, a_r10_38, f15_38, o_v12_38, f17_38, f18_38, f19_38, f20_38, f21_38, f22_38, f23_38, f24_38, f25_38, f26_38, f27_38, f28_38, f29_38, f30_38, f31_38, -⟩ := (hG.1 _ _ _ _ hk_38).hX5 rfl
    have hn9 := fe_qr (hq_38 0 (by decide))
    subst hn9
    have o_b_2 := o_v0_38 _ rfl
    have F_b_2 := F_v0_38 _ rfl
    have hn9 := fe_qr (hq_38 12 (by decide))
    subst hn9
    have o_b_3 := o_v12_38 _ rfl
    obtain rfl := fe_i (hq_38 13 (by decide))
    refine va_get (D := gD g) (ci := 5) (v := .int c13_1) (C := RX5) (T := TX5) (N := 20) hx hb hts inX5 hown hK hP k_1 hk_38 rfl 13 (by decide) (hts _ kw_1021) (fun _ h9 => h9) rfl dX5_calculate_59 ?_
    refine lv_iconst (v := 1) hx hb dX5_calculate_62 (by decide) ?_
    refine lv_iadd hx hb dX5_calculate_63 ?_
    refine lv_topi (fun z_39 ez_39 => ?_)
    have hV9 : okv ws_33 5 13 (.int z_39) := okv_i
    refine va_put (D := gD g) (ci := 5) (v := .int z_39) (ty := .int) (C := RX5) (T := TX5) (N := 20) hx hb hts inX5 tyX5 tyX5_ok nmX5 hown hK hP hD hS k_1 hk_38 rfl 13 (by decide) (hts _ kw_1021) (fun _ h9 => h9) rfl (by decide +kernel) rfl rfl (Nat.le_of_ble_eq_true rfl) dX5_calculate_64 (fun H locs hP hD hS => ?_)
    have hi_40 : invX5 g ws_33 h0 [.ref b_2, .ref r1_38, .ref r2_38, .int c3_38, .ref r4_38, .int c5_38, .ref r6_38, .int c7_38, .ref r8_38, .ref r9_38, .ref r10_38, .int c11_38, .ref b_3, .int z_39, .int c14_38, .int c15_38, .long l16_38, .int c17_38, .int c18_38, .int c19_38] := ⟨(some b_2), r1_38, (n1_38), r2_38, (n2_38), (c3_38), r4_38, (n4_38), (c5_38), r6_38, (n6_38), (c7_38), r8_38, (n8_38), r9_38, (n9_38), r10_38, (n10_38), (c11_38), (some b_3), (z_39), (c14_38), (c15_38), (l16_38), (c17_38), (c18_38), (c19_38), rfl, (fun b h9 => by cases h9; exact o_b_2), (fun b h9 => by cases h9; exact F_b_2), a_r1_38, f3_38, a_r2_38, f5_38, a_r4_38, f7_38, a_r6_38, f9_38, a_r8_38, f11_38, a_r9_38, f13_38, a_r10_38, f15_38, (fun b h9 => by cases h9; exact o_b_3), f17_38, f18_38, f19_38, f20_38, f21_38, f22_38, f23_38, f24_38, f25_38, f26_38, f27_38, f28_38, f29_38, f30_38, f31_38, trivial⟩
    obtain ⟨ws_41, e_ws_41⟩ : ∃ z, z = ws_33.set k_1 (h0, .inr (5, [.ref b_2, .ref r1_38, .ref r2_38, .int c3_38, .ref r4_38, .int c5_38, .ref r6_38, .int c7_38, .ref r8_38, .ref r9_38, .ref r10_38, .int c11_38, .ref b_3, .int z_39, .int c14_38, .int c15_38, .long l16_38, .int c17_38, .int c18_38, .int c19_38])) := ⟨_, rfl⟩
    have hP : va_P (gD g) cl0 ws_41 H := by rw [e_ws_41]; exact hP
    have hD : va_D A ws_41 := by rw [e_ws_41]; exact hD
    have E_42 : gE ws_33 ws_41 := gE_set e_ws_41 hk_38 (cw_o (fi := 13) (v := .int z_39) rfl (by decide))
    have hG : Good g ws_41 := Good_set (fi := 13) (v := .int z_39) e_ws_41 hk_38 E_42 rfl hV9 hG (ivX5 hi_40)
    have Fr_43 : gF [(5, 13)] [] (some h0) ws_33 ws_41 := gF_put (fi := 13) (v := .int z_39) e_ws_41 hk_38 rfl (by decide)
    have hkN := gset_self e_ws_41 hk_38
    have hk_38 := hkN
    have o_h0 := E_42.1 _ _ o_h0
    have a_r1_38 := E_42.1 _ _ a_r1_38
    have a_r2_38 := E_42.1 _ _ a_r2_38
    have a_r4_38 := E_42.1 _ _ a_r4_38
    have a_r6_38 := E_42.1 _ _ a_r6_38
    have a_r8_38 := E_42.1 _ _ a_r8_38
    have a_r9_38 := E_42.1 _ _ a_r9_38
    have a_r10_38 := E_42.1 _ _ a_r10_38
    have o_b_2 := E_42.1 _ _ o_b_2
    have F_b_2 := F_b_2.mo E_42
    have o_b_3 := E_42.1 _ _ o_b_3
    refine W.widen (k := 0) (n := 0) (Nat.le_of_ble_eq_true rfl) (Nat.le_of_ble_eq_true rfl) ?_
    have tq_44 : frP g ws_41 h0 := frP_mo ((gF.tr (gF.mo (F' := [(5, 13), (5, 14), (5, 19)]) (C' := [(5, 9)]) (S' := none) Fr_9 (by decide) (fun _ h => absurd h List.not_mem_nil) (Or.inr rfl)) (gF.tr (gF.mo (F' := [(5, 13), (5, 14), (5, 19)]) (C' := [(5, 9)]) (S' := none) Fr_24 (by decide) (fun _ h => absurd h List.not_mem_nil) (Or.inr rfl)) (gF.tr (gF.mo (F' := [(5, 13), (5, 14), (5, 19)]) (C' := [(5, 9)]) (S' := none) Fr_35 (by decide) (fun _ h => h) (Or.inr rfl)) (gF.mo (F' := [(5, 13), (5, 14), (5, 19)]) (C' := [(5, 9)]) (S' := none) Fr_43 (by decide) (fun _ h => absurd h List.not_mem_nil) (Or.inl rfl)))))) (by decide) (by decide) (by decide) (by decide) (by decide) tk0
    have tq_45 : swU ws_41 h0 := swU_mo ((gF.tr (gF.mo (F' := [(5, 13), (5, 14), (5, 19)]) (C' := [(5, 9)]) (S' := none) Fr_9 (by decide) (fun _ h => absurd h List.not_mem_nil) (Or.inr rfl)) (gF.tr (gF.mo (F' := [(5, 13), (5, 14), (5, 19)]) (C' := [(5, 9)]) (S' := none) Fr_24 (by decide) (fun _ h => absurd h List.not_mem_nil) (Or.inr rfl)) (gF.tr (gF.mo (F' := [(5, 13), (5, 14), (5, 19)]) (C' := [(5, 9)]) (S' := none) Fr_35 (by decide) (fun _ h => h) (Or.inr rfl)) (gF.mo (F' := [(5, 13), (5, 14), (5, 19)]) (C' := [(5, 9)]) (S' := none) Fr_43 (by decide) (fun _ h => absurd h List.not_mem_nil) (Or.inl rfl)))))) (by decide) (by decide) (by decide) (by decide) (by decide) (by decide) (by decide) (by decide) (by decide) (by decide) (by decide) tk1
    have tq_46 : swC ws_41 h0 := swC_mo ((gF.tr (gF.mo (F' := [(5, 13), (5, 14), (5, 19)]) (C' := [(5, 9)]) (S' := none) Fr_9 (by decide) (fun _ h => absurd h List.not_mem_nil) (Or.inr rfl)) (gF.tr (gF.mo (F' := [(5, 13), (5, 14), (5, 19)]) (C' := [(5, 9)]) (S' := none) Fr_24 (by decide) (fun _ h => absurd h List.not_mem_nil) (Or.inr rfl)) (gF.tr (gF.mo (F' := [(5, 13), (5, 14), (5, 19)]) (C' := [(5, 9)]) (S' := none) Fr_35 (by decide) (fun _ h => h) (Or.inr rfl)) (gF.mo (F' := [(5, 13), (5, 14), (5, 19)]) (C' := [(5, 9)]) (S' := none) Fr_43 (by decide) (fun _ h => absurd h List.not_mem_nil) (Or.inl rfl)))))) (by decide) (by decide) (by decide) (by decide) (by decide) (by decide) (by decide) (by decide) (by decide) tk2
    have tq_47 : arP g ws_41 h0 := arP_mo ((gF.tr (gF.mo (F' := [(5, 13), (5, 14), (5, 19)]) (C' := [(5, 9)]) (S' := none) Fr_9 (by decide) (fun _ h => absurd h List.not_mem_nil) (Or.inr rfl)) (gF.tr (gF.mo (F' := [(5, 13), (5, 14), (5, 19)]) (C' := [(5, 9)]) (S' := none) Fr_24 (by decide) (fun _ h => absurd h List.not_mem_nil) (Or.inr rfl)) (gF.tr (gF.mo (F' := [(5, 13), (5, 14), (5, 19)]) (C' := [(5, 9)]) (S' := none) Fr_35 (by decide) (fun _ h => h) (Or.inr rfl)) (gF.mo (F' := [(5, 13), (5, 14), (5, 19)]) (C' := [(5, 9)]) (S' := none) Fr_43 (by decide) (fun _ h => absurd h List.not_mem_nil) (Or.inl rfl)))))) ((E_8.tr (E_23.tr (E_34.tr E_42)))) (by decide) (by decide) tk3
    exact W.vret hx hb hr (fun t9 ht9 hW9 => ⟨⟨ws_41, rfl, ⟨trivial, (gN_of hD hk_38 (j := 0) rfl), (gN_of hD hk_38 (j := 12) rfl), tq_44, tq_45, tq_46, tq_47⟩, ⟨(E_8.tr (E_23.tr (E_34.tr E_42))), (gF.tr (gF.mo (F' := [(5, 11), (5, 12), (5, 13), (5, 14), (5, 15), (5, 17), (5, 19)]) (C' := [(5, 9)]) (S' := none) Fr_9 (by decide) (fun _ h => absurd h List.not_mem_nil) (Or.inr rfl)) (gF.tr (gF.mo (F' := [(5, 11), (5, 12), (5, 13), (5, 14), (5, 15), (5, 17), (5, 19)]) (C' := [(5, 9)]) (S' := none) Fr_24 (by decide) (fun _ h => absurd h List.not_mem_nil) (Or.inr rfl)) (gF.tr (gF.mo (F' := [(5, 11), (5, 12), (5, 13), (5, 14), (5, 15), (5, 17), (5, 19)]) (C' := [(5, 9)]) (S' := none) Fr_35 (by decide) (fun _ h => h) (Or.inr rfl)) (gF.mo (F' := [(5, 11), (5, 12), (5, 13), (5, 14), (5, 15), (5, 17), (5, 19)]) (C' := [(5, 9)]) (S' := none) Fr_43 (by decide) (fun _ h => absurd h List.not_mem_nil) (Or.inl rfl))))), hG, by rw [ht9]; exact hP, hD⟩⟩, hS.F ht9⟩) hS.2.2 dX5_calculate_67
  refine lv_if_eq (tgt := 42) hx hb dX5_calculate_27 (by decide) (fun c_48 => ?_) (fun c_48 => ?_)
  · exact J_42  H locs ls  hP hD hS (lv_sub hl [3, 4, 1, 0] rfl)
  · refine lv_lload_n hx hb dX5_calculate_30 rfl (lv_at hl 1 rfl) ?_
    refine lv_lconst (v := 0) hx hb dX5_calculate_31 (by decide) ?_
    refine W.lcmp hx hb dX5_calculate_32 ?_
    refine lv_topi (fun z_49 ez_49 => ?_)
    refine lv_if_ne (tgt := 42) hx hb dX5_calculate_33 (by decide) (fun c_50 => ?_) (fun c_50 => ?_)
    · exact J_42  H locs ls  hP hD hS (lv_sub hl [3, 4, 1, 0] rfl)
    · refine lv_aload_n hx hb dX5_calculate_36 rfl (lv_at hl 3 rfl) ?_
      refine lv_iconst (v := 0) hx hb dX5_calculate_37 (by decide) ?_
      obtain ⟨fs9, hk_51, hq_51⟩ := ((gA.tr (gF.a (F' := [(5, 14), (5, 19)]) Fr_9 (fun _ h => h)) (gF.a (F' := [(5, 14), (5, 19)]) Fr_24 (fun _ h => h)))) _ _ _ hk_1
      obtain ⟨v0_51, r1_51, n1_51, r2_51, n2_51, c3_51, r4_51, n4_51, c5_51, r6_51, n6_51, c7_51, r8_51, n8_51, r9_51, n9_51, r10_51, n10_51, c11_51, v12_51, c13_51, c14_51, c15_51, l16_51, c17_51, c18_51, c19_51, rfl, o_v0_51, F_v0_51, a_r1_51, f3_51, a_r2_51, f5_51, a_r4_51, f7_51, a_r6_51, f9_51, a_r8_51, f11_51, a_r9_51, f13_51, a_r10_51, f15_51, o_v12_51, f17_51, f18_51, f19_51, f20_51, f21_51, f22_51, f23_51, f24_51, f25_51, f26_51, f27_51, f28_51, f29_51, f30_51, f31_51, -⟩ := (hG.1 _ _ _ _ hk_51).hX5 rfl
      have hn9 := fe_qr (hq_51 0 (by decide))
      subst hn9
      have o_b_2 := o_v0_51 _ rfl
      have F_b_2 := F_v0_51 _ rfl
      have hn9 := fe_qr (hq_51 12 (by decide))
      subst hn9
      have o_b_3 := o_v12_51 _ rfl
      obtain rfl := fe_i (hq_51 13 (by decide))
      have tq_52 : frP g ws_22 h0 := frP_mo ((gF.tr Fr_9 Fr_24)) (by decide) (by decide) (by decide) (by decide) (by decide) tk0
      have tq_53 : swU ws_22 h0 := swU_mo ((gF.tr Fr_9 Fr_24)) (by decide) (by decide) (by decide) (by decide) (by decide) (by decide) (by decide) (by decide) (by decide) (by decide) (by decide) tk1
      have tq_54 : swC ws_22 h0 := swC_mo ((gF.tr Fr_9 Fr_24)) (by decide) (by decide) (by decide) (by decide) (by decide) (by decide) (by decide) (by decide) (by decide) tk2
      have tq_55 : arP g ws_22 h0 := arP_mo ((gF.tr Fr_9 Fr_24)) ((E_8.tr E_23)) (by decide) (by decide) tk3
      have hFc := gfree hD hS hA
      refine va_callv (va_runV (As := [.int 0]) (rest := []) ⟨hx, hb, hml, hown, hts⟩ (m_X5_raise l g H.size ws_22 h0 (0) hG o_h0 (gN_of hD hk_51 (j := 0) rfl) (gN_of hD hk_51 (j := 12) rfl) tq_52 tq_53 tq_54 tq_55) (cwV 1 hts (gd_V kw_1017 kw_1136 kw_1137 kw_398 kw_1135) rfl rfl rfl (by decide +kernel) ⟨Nat.le_of_ble_eq_true rfl, Nat.le_of_ble_eq_true rfl⟩) ⟨gblind, va_recv hK hP (ci := 5) (q0 := k_1) rfl hk_51, fun U hU hW9 => gmk hU hW9 hP hK hD hex hE hS hFc⟩ rfl rfl hl.1 rfl (lv_room (Nat.le_of_ble_eq_true rfl)) dX5_calculate_38 ⟨Nat.le_of_ble_eq_true rfl, Nat.le_of_ble_eq_true rfl⟩) hS (fun q _ h => hFc q h) hFc (fun  ws_56 t9 H1 locs ht9 hvm9 hw9 hB9 hz9 hk9 hS => ?_)
      obtain ⟨E_57, Fr_58, hG, hP1, hD1⟩ := hB9
      have hP : va_P (gD g) cl0 ws_56 H1 := by rw [← ht9]; exact hP1
      have hD : va_D A ws_56 := hD1.weaken (fun _ _ _ h => hFc _ h)
      obtain ⟨hw9, xp_61, xp_62, xp_63, xp_64, xp_65, xp_66⟩ := hw9
      clear hP1 hD1 hz9 hk9 hvm9 ht9 hw9
      generalize H1 = H at hP hS ⊢
      have aa_67 := a_r1_51
      have aa_68 := a_r2_51
      have aa_69 := a_r4_51
      have aa_70 := a_r6_51
      have aa_71 := a_r8_51
      have aa_72 := a_r9_51
      have aa_73 := a_r10_51
      have o_h0 := E_57.1 _ _ o_h0
      obtain ⟨fs9, hk_74, hq_74⟩ := ((gF.a (F' := [(5, 11), (5, 12), (5, 13), (5, 14), (5, 15), (5, 17), (5, 19)]) Fr_58 (fun _ h => h))) _ _ _ hk_51
      obtain ⟨v0_74, r1_74, n1_74, r2_74, n2_74, c3_74, r4_74, n4_74, c5_74, r6_74, n6_74, c7_74, r8_74, n8_74, r9_74, n9_74, r10_74, n10_74, c11_74, v12_74, c13_74, c14_74, c15_74, l16_74, c17_74, c18_74, c19_74, rfl, o_v0_74, F_v0_74, a_r1_74, f3_74, a_r2_74, f5_74, a_r4_74, f7_74, a_r6_74, f9_74, a_r8_74, f11_74, a_r9_74, f13_74, a_r10_74, f15_74, o_v12_74, f17_74, f18_74, f19_74, f20_74, f21_74, f22_74, f23_74, f24_74, f25_74, f26_74, f27_74, f28_74, f29_74, f30_74, f31_74, -⟩ := (hG.1 _ _ _ _ hk_74).hX5 rfl
      have hn9 := fe_qr (hq_74 0 (by decide))
      subst hn9
      have o_b_2 := o_v0_74 _ rfl
      have F_b_2 := F_v0_74 _ rfl
      obtain ⟨b_75, hn9⟩ := xp_62 _ _ _ hk_74
      have hn9 := fe_qr hn9
      subst hn9
      have o_b_75 := o_v12_74 _ rfl
      refine W.widen (k := 0) (n := 0) (Nat.le_of_ble_eq_true rfl) (Nat.le_of_ble_eq_true rfl) ?_
      exact W.vret hx hb hr (fun t9 ht9 hW9 => ⟨⟨ws_56, rfl, ⟨trivial, (gN_of hD hk_74 (j := 0) rfl), (gN_of hD hk_74 (j := 12) rfl), xp_63, xp_64, xp_65, xp_66⟩, ⟨(E_8.tr (E_23.tr E_57)), (gF.tr (gF.mo (F' := [(5, 11), (5, 12), (5, 13), (5, 14), (5, 15), (5, 17), (5, 19)]) (C' := [(5, 9)]) (S' := none) Fr_9 (by decide) (fun _ h => absurd h List.not_mem_nil) (Or.inr rfl)) (gF.tr (gF.mo (F' := [(5, 11), (5, 12), (5, 13), (5, 14), (5, 15), (5, 17), (5, 19)]) (C' := [(5, 9)]) (S' := none) Fr_24 (by decide) (fun _ h => absurd h List.not_mem_nil) (Or.inr rfl)) Fr_58)), hG, by rw [ht9]; exact hP, hD⟩⟩, hS.F ht9⟩) hS.2.2 dX5_calculate_41
set_option maxHeartbeats 1000000 in
set_option maxRecDepth 100000 in
theorem m_X5_throwIt (l : Launch) (g : Gm) (sz : Nat) (ws : va_W) (h0 : Nat) (y1 : Int64) (hG : Good g ws) (o_h0 : gC ws h0 5) (nn_h0_0 : gN ws h0 0) (nn_h0_12 : gN ws h0 12) (tk0 : frP g ws h0) (tk1 : swU ws h0) (tk2 : swC ws h0) (tk3 : arP g ws h0) : Met l yX5_throwIt (wt yX5_throwIt cX5_throwIt 3 none) ({ frames := 3, cells := 0, slots := 0, locals := 67 }) (va_Pc [.ref h0, .long y1] (st_G g sz ws)) (va_Qv (fun (u9 : va_W) => (True) ∧ (gN u9 h0 0) ∧ (gN u9 h0 12) ∧ (frP g u9 h0) ∧ (swU u9 h0) ∧ (swC u9 h0) ∧ (arP g u9 h0)) (gQ1 g [(5, 11), (5, 12), (5, 13), (5, 14), (5, 15), (5, 17), (5, 19)] [(5, 9)] none (va_A ws sz) ws) (va_A ws sz)) (0) (0) (va_A ws sz) := by
  refine Met.ofW (cc := cX5_throwIt) (maxL := 3) (ret := none) (by decide) rfl ?_
  intro p e s m args below meth c s₁ B hml hv
  obtain ⟨rfl, hsz, hP, hK, hD0, hex, hE⟩ := hv
  have hx := B.exec
  have hb := B.bytes
  have hr := B.returns
  have hts0 := atoms_spec (ws := wt yX5_throwIt cX5_throwIt 3 none) B.pre
  have hts : ∀ w ∈ tb, w.before _ s = true := fun w h => hts0 w (List.mem_cons_of_mem _ h)
  have hown : s.vm.findClass RX5 = some m.cls := findClass_of_methodNamed B.named
  subst hsz
  have hD := hD0.self (sz := s.heap.size)
  generalize hAe : va_A ws s.heap.size = A at hD hE ⊢
  have hA : ∀ q : Nat, s.heap.size ≤ q → A q := fun q h => by rw [← hAe]; exact Or.inr h
  have hS : va_S A s.heap s.heap [] := va_S.rf
  have hl := lv_entry ([.ref h0, .long y1]) (n := 3) (Nat.le_of_ble_eq_true rfl)
  rw [lg_entry_eq]
  generalize (lg_sl ([.ref h0, .long y1]) ++ List.replicate (3 - (lg_sl ([.ref h0, .long y1])).length) Slot.unset).toArray = ls at hl ⊢
  have hl : lv_has ls 3 [(0, .ref h0), (1, .long y1)] := hl
  obtain ⟨k_1, fs9, hk_1⟩ := gC_of o_h0
  obtain ⟨v0_1, r1_1, n1_1, r2_1, n2_1, c3_1, r4_1, n4_1, c5_1, r6_1, n6_1, c7_1, r8_1, n8_1, r9_1, n9_1, r10_1, n10_1, c11_1, v12_1, c13_1, c14_1, c15_1, l16_1, c17_1, c18_1, c19_1, rfl, o_v0_1, F_v0_1, a_r1_1, f3_1, a_r2_1, f5_1, a_r4_1, f7_1, a_r6_1, f9_1, a_r8_1, f11_1, a_r9_1, f13_1, a_r10_1, f15_1, o_v12_1, f17_1, f18_1, f19_1, f20_1, f21_1, f22_1, f23_1, f24_1, f25_1, f26_1, f27_1, f28_1, f29_1, f30_1, f31_1, -⟩ := (hG.1 _ _ _ _ hk_1).hX5 rfl
  obtain ⟨b_2, hn9⟩ := nn_h0_0 _ _ _ hk_1
  have hn9 := fe_qr hn9
  subst hn9
  have o_b_2 := o_v0_1 _ rfl
  have F_b_2 := F_v0_1 _ rfl
  obtain ⟨b_3, hn9⟩ := nn_h0_12 _ _ _ hk_1
  have hn9 := fe_qr hn9
  subst hn9
  have o_b_3 := o_v12_1 _ rfl
  refine lv_aload_n hx hb dX5_throwIt_0 rfl (lv_at hl 0 rfl) ?_
  refine lv_lload_n hx hb dX5_throwIt_1 rfl (lv_at hl 1 rfl) ?_
  refine lv_lconst (v := 0) hx hb dX5_throwIt_2 (by decide) ?_
  refine W.lcmp hx hb dX5_throwIt_3 ?_
  refine lv_topi (fun z_4 ez_4 => ?_)
  have J_25 : ∀ (t_5 : Int32) (H : Heap) (locs : List Loc) (ls : Array Slot), va_P (gD g) cl0 ws H → va_D A ws → va_S A s.heap H locs → lv_has ls 3 [] → W p l e (headSpec (wt yX5_throwIt cX5_throwIt 3 none) ({ frames := 3, cells := 0, slots := 0, locals := 67 })).room s m ([.ref h0, .long y1] : List Value).toArray below meth c H locs (0) (0) (MQ below (va_Qv (fun (u9 : va_W) => (True) ∧ (gN u9 h0 0) ∧ (gN u9 h0 12) ∧ (frP g u9 h0) ∧ (swU u9 h0) ∧ (swC u9 h0) ∧ (arP g u9 h0)) (gQ1 g [(5, 11), (5, 12), (5, 13), (5, 14), (5, 15), (5, 17), (5, 19)] [(5, 9)] none A ws) A) ([.ref h0, .long y1] : List Value).toArray s (0) (0) A) (F0 m 25 ls [.int t_5, .ref h0]) := by
    intro t_5 H locs ls  hP hD hS hl
    have hFc := gfree hD hS hA
    refine va_callv (va_runV (As := [.int t_5]) (rest := []) ⟨hx, hb, hml, hown, hts⟩ (m_X5_raise l g H.size ws h0 (t_5) hG o_h0 (gN_of hD hk_1 (j := 0) rfl) (gN_of hD hk_1 (j := 12) rfl) tk0 tk1 tk2 tk3) (cwV 1 hts (gd_V kw_1017 kw_1136 kw_1137 kw_398 kw_1135) rfl rfl rfl (by decide +kernel) ⟨Nat.le_of_ble_eq_true rfl, Nat.le_of_ble_eq_true rfl⟩) ⟨gblind, va_recv hK hP (ci := 5) (q0 := k_1) rfl hk_1, fun U hU hW9 => gmk hU hW9 hP hK hD hex hE hS hFc⟩ rfl rfl hl.1 rfl (lv_room (Nat.le_of_ble_eq_true rfl)) dX5_throwIt_25 ⟨Nat.le_of_ble_eq_true rfl, Nat.le_of_ble_eq_true rfl⟩) hS (fun q _ h => hFc q h) hFc (fun  ws_8 t9 H1 locs ht9 hvm9 hw9 hB9 hz9 hk9 hS => ?_)
    obtain ⟨E_9, Fr_10, hG, hP1, hD1⟩ := hB9
    have hP : va_P (gD g) cl0 ws_8 H1 := by rw [← ht9]; exact hP1
    have hD : va_D A ws_8 := hD1.weaken (fun _ _ _ h => hFc _ h)
    obtain ⟨hw9, xp_13, xp_14, xp_15, xp_16, xp_17, xp_18⟩ := hw9
    clear hP1 hD1 hz9 hk9 hvm9 ht9 hw9
    generalize H1 = H at hP hS ⊢
    have aa_19 := a_r1_1
    have aa_20 := a_r2_1
    have aa_21 := a_r4_1
    have aa_22 := a_r6_1
    have aa_23 := a_r8_1
    have aa_24 := a_r9_1
    have aa_25 := a_r10_1
    have o_h0 := E_9.1 _ _ o_h0
    obtain ⟨fs9, hk_26, hq_26⟩ := ((gF.a (F' := [(5, 11), (5, 12), (5, 13), (5, 14), (5, 15), (5, 17), (5, 19)]) Fr_10 (fun _ h => h))) _ _ _ hk_1
    obtain ⟨v0_26, r1_26, n1_26, r2_26, n2_26, c3_26, r4_26, n4_26, c5_26, r6_26, n6_26, c7_26, r8_26, n8_26, r9_26, n9_26, r10_26, n10_26, c11_26, v12_26, c13_26, c14_26, c15_26, l16_26, c17_26, c18_26, c19_26, rfl, o_v0_26, F_v0_26, a_r1_26, f3_26, a_r2_26, f5_26, a_r4_26, f7_26, a_r6_26, f9_26, a_r8_26, f11_26, a_r9_26, f13_26, a_r10_26, f15_26, o_v12_26, f17_26, f18_26, f19_26, f20_26, f21_26, f22_26, f23_26, f24_26, f25_26, f26_26, f27_26, f28_26, f29_26, f30_26, f31_26, -⟩ := (hG.1 _ _ _ _ hk_26).hX5 rfl
    have hn9 := fe_qr (hq_26 0 (by decide))
    subst hn9
    have o_b_2 := o_v0_26 _ rfl
    have F_b_2 := F_v0_26 _ rfl
    obtain ⟨b_27, hn9⟩ := xp_14 _ _ _ hk_26
    have hn9 := fe_qr hn9
    subst hn9
    have o_b_27 := o_v12_26 _ rfl
    refine W.widen (k := 0) (n := 0) (Nat.le_of_ble_eq_true rfl) (Nat.le_of_ble_eq_true rfl) ?_
    exact W.vret hx hb hr (fun t9 ht9 hW9 => ⟨⟨ws_8, rfl, ⟨trivial, (gN_of hD hk_26 (j := 0) rfl), (gN_of hD hk_26 (j := 12) rfl), xp_15, xp_16, xp_17, xp_18⟩, ⟨E_9, Fr_10, hG, by rw [ht9]; exact hP, hD⟩⟩, hS.F ht9⟩) hS.2.2 dX5_throwIt_28
  have J_24 : ∀  (H : Heap) (locs : List Loc) (ls : Array Slot), va_P (gD g) cl0 ws H → va_D A ws → va_S A s.heap H locs → lv_has ls 3 [] → W p l e (headSpec (wt yX5_throwIt cX5_throwIt 3 none) ({ frames := 3, cells := 0, slots := 0, locals := 67 })).room s m ([.ref h0, .long y1] : List Value).toArray below meth c H locs (0) (0) (MQ below (va_Qv (fun (u9 : va_W) => (True) ∧ (gN u9 h0 0) ∧ (gN u9 h0 12) ∧ (frP g u9 h0) ∧ (swU u9 h0) ∧ (swC u9 h0) ∧ (arP g u9 h0)) (gQ1 g [(5, 11), (5, 12), (5, 13), (5, 14), (5, 15), (5, 17), (5, 19)] [(5, 9)] none A ws) A) ([.ref h0, .long y1] : List Value).toArray s (0) (0) A) (F0 m 24 ls [.ref h0]) := by
    intro  H locs ls  hP hD hS hl
    refine lv_iconst (v := 1) hx hb dX5_throwIt_24 (by decide) ?_
    exact J_25 (1) H locs ls  hP hD hS (lv_sub hl [] rfl)
  refine lv_if_ge (tgt := 24) hx hb dX5_throwIt_4 (by decide) (fun c_30 => ?_) (fun c_30 => ?_)
  · exact J_24  _ _ ls  hP hD hS (lv_sub hl [] rfl)
  · refine lv_lload_n hx hb dX5_throwIt_7 rfl (lv_at hl 1 rfl) ?_
    refine lv_ldc2 hx hb hown (hts _ kw_1189) dX5_throwIt_8 ?_
    refine W.lcmp hx hb dX5_throwIt_11 ?_
    refine lv_topi (fun z_31 ez_31 => ?_)
    refine lv_if_lt (tgt := 24) hx hb dX5_throwIt_12 (by decide) (fun c_32 => ?_) (fun c_32 => ?_)
    · exact J_24  _ _ ls  hP hD hS (lv_sub hl [] rfl)
    · refine lv_ldc2 hx hb hown (hts _ kw_1190) dX5_throwIt_15 ?_
      refine lv_lload_n hx hb dX5_throwIt_18 rfl (lv_at hl 1 rfl) ?_
      refine lv_lsub hx hb dX5_throwIt_19 ?_
      refine lv_topl (fun z_33 ez_33 => ?_)
      obtain ⟨z_34, ez_34⟩ : ∃ y : Int32, (z_33 : Int64).toInt32 = y := ⟨_, rfl⟩
      refine lv_l2i (v := z_34) hx hb dX5_throwIt_20 ez_34 ?_
      refine lv_goto (tgt := 25) hx hb dX5_throwIt_21 (by decide) ?_
      exact J_25 (z_34) _ _ ls  hP hD hS (lv_sub hl [] rfl)
set_option maxHeartbeats 1000000 in
set_option maxRecDepth 100000 in
theorem m_X5_tellLength (l : Launch) (g : Gm) (sz : Nat) (ws : va_W) (h0 : Nat) (y1 : Int64) (hG : Good g ws) (o_h0 : gC ws h0 5) (nn_h0_0 : gN ws h0 0) (nn_h0_12 : gN ws h0 12) (tk0 : frP g ws h0) (tk1 : swU ws h0) (tk2 : swC ws h0) (tk3 : arP g ws h0) : Met l yX5_tellLength (wt yX5_tellLength cX5_tellLength 3 none) ({ frames := 3, cells := 0, slots := 0, locals := 67 }) (va_Pc [.ref h0, .long y1] (st_G g sz ws)) (va_Qv (fun (u9 : va_W) => (True) ∧ (gN u9 h0 0) ∧ (gN u9 h0 12) ∧ (frP g u9 h0) ∧ (swU u9 h0) ∧ (swC u9 h0) ∧ (arP g u9 h0)) (gQ1 g [(5, 11), (5, 12), (5, 13), (5, 14), (5, 15), (5, 17), (5, 19)] [(5, 9)] none (va_A ws sz) ws) (va_A ws sz)) (0) (0) (va_A ws sz) := by
  refine Met.ofW (cc := cX5_tellLength) (maxL := 3) (ret := none) (by decide) rfl ?_
  intro p e s m args below meth c s₁ B hml hv
  obtain ⟨rfl, hsz, hP, hK, hD0, hex, hE⟩ := hv
  have hx := B.exec
  have hb := B.bytes
  have hr := B.returns
  have hts0 := atoms_spec (ws := wt yX5_tellLength cX5_tellLength 3 none) B.pre
  have hts : ∀ w ∈ tb, w.before _ s = true := fun w h => hts0 w (List.mem_cons_of_mem _ h)
  have hown : s.vm.findClass RX5 = some m.cls := findClass_of_methodNamed B.named
  subst hsz
  have hD := hD0.self (sz := s.heap.size)
  generalize hAe : va_A ws s.heap.size = A at hD hE ⊢
  have hA : ∀ q : Nat, s.heap.size ≤ q → A q := fun q h => by rw [← hAe]; exact Or.inr h
  have hS : va_S A s.heap s.heap [] := va_S.rf
  have hl := lv_entry ([.ref h0, .long y1]) (n := 3) (Nat.le_of_ble_eq_true rfl)
  rw [lg_entry_eq]
  generalize (lg_sl ([.ref h0, .long y1]) ++ List.replicate (3 - (lg_sl ([.ref h0, .long y1])).length) Slot.unset).toArray = ls at hl ⊢
  have hl : lv_has ls 3 [(0, .ref h0), (1, .long y1)] := hl
  obtain ⟨k_1, fs9, hk_1⟩ := gC_of o_h0
  obtain ⟨v0_1, r1_1, n1_1, r2_1, n2_1, c3_1, r4_1, n4_1, c5_1, r6_1, n6_1, c7_1, r8_1, n8_1, r9_1, n9_1, r10_1, n10_1, c11_1, v12_1, c13_1, c14_1, c15_1, l16_1, c17_1, c18_1, c19_1, rfl, o_v0_1, F_v0_1, a_r1_1, f3_1, a_r2_1, f5_1, a_r4_1, f7_1, a_r6_1, f9_1, a_r8_1, f11_1, a_r9_1, f13_1, a_r10_1, f15_1, o_v12_1, f17_1, f18_1, f19_1, f20_1, f21_1, f22_1, f23_1, f24_1, f25_1, f26_1, f27_1, f28_1, f29_1, f30_1, f31_1, -⟩ := (hG.1 _ _ _ _ hk_1).hX5 rfl
  obtain ⟨b_2, hn9⟩ := nn_h0_0 _ _ _ hk_1
  have hn9 := fe_qr hn9
  subst hn9
  have o_b_2 := o_v0_1 _ rfl
  have F_b_2 := F_v0_1 _ rfl
  obtain ⟨b_3, hn9⟩ := nn_h0_12 _ _ _ hk_1
  have hn9 := fe_qr hn9
  subst hn9
  have o_b_3 := o_v12_1 _ rfl
  refine lv_lload_n hx hb dX5_tellLength_0 rfl (lv_at hl 1 rfl) ?_
  refine lv_lconst (v := 0) hx hb dX5_tellLength_1 (by decide) ?_
  refine W.lcmp hx hb dX5_tellLength_2 ?_
  refine lv_topi (fun z_4 ez_4 => ?_)
  refine lv_if_ne (tgt := 12) hx hb dX5_tellLength_3 (by decide) (fun c_5 => ?_) (fun c_5 => ?_)
  · refine lv_aload_n hx hb dX5_tellLength_12 rfl (lv_at hl 0 rfl) ?_
    refine lv_aload_n hx hb dX5_tellLength_13 rfl (lv_at hl 0 rfl) ?_
    refine lv_lload_n hx hb dX5_tellLength_14 rfl (lv_at hl 1 rfl) ?_
    obtain ⟨z_6, ez_6⟩ : ∃ y : Int32, (y1 : Int64).toInt32 = y := ⟨_, rfl⟩
    refine lv_l2i (v := z_6) hx hb dX5_tellLength_15 ez_6 ?_
    have hFc := gfree hD hS hA
    refine va_calli (va_runV (As := [.int z_6]) (rest := [.ref h0]) ⟨hx, hb, hml, hown, hts⟩ (m_X5_lengthOf l g s.heap.size ws h0 (z_6) hG o_h0) (cwV 1 hts (gd_V kw_1035 kw_1088 kw_1089 kw_398 kw_1087) rfl rfl rfl (by decide +kernel) ⟨Nat.le_of_ble_eq_true rfl, Nat.le_of_ble_eq_true rfl⟩) ⟨gblind, va_recv hK hP (ci := 5) (q0 := k_1) rfl hk_1, fun U hU hW9 => gmk hU hW9 hP hK hD hex hE hS hFc⟩ rfl rfl hl.1 rfl (lv_room (Nat.le_of_ble_eq_true rfl)) dX5_tellLength_16 ⟨Nat.le_of_ble_eq_true rfl, Nat.le_of_ble_eq_true rfl⟩) hS (fun q _ h => hFc q h) hFc (fun r_7 u9 t9 H1 locs ht9 hvm9 hw9 hB9 hz9 hk9 hS => ?_)
    have hP : va_P (gD g) cl0 ws H1 := by rw [← ht9]; exact hB9.1
    clear hB9 hz9 hk9 hvm9 ht9 hw9
    generalize H1 = H at hP hS ⊢
    obtain ⟨z_8, ez_8⟩ : ∃ y : Int64, (r_7 : Int32).toInt64 = y := ⟨_, rfl⟩
    refine lv_i2l (v := z_8) hx hb dX5_tellLength_19 ez_8 ?_
    have hFc := gfree hD hS hA
    refine va_callv (va_runV (As := [.long z_8]) (rest := []) ⟨hx, hb, hml, hown, hts⟩ (m_X5_push l g H.size ws h0 (z_8) hG o_h0) (cwV 1 hts (gd_V kw_1099 kw_1130 kw_1131 kw_398 kw_1129) rfl rfl rfl (by decide +kernel) ⟨Nat.le_of_ble_eq_true rfl, Nat.le_of_ble_eq_true rfl⟩) ⟨gblind, va_recv hK hP (ci := 5) (q0 := k_1) rfl hk_1, fun U hU hW9 => gmk hU hW9 hP hK hD hex hE hS hFc⟩ rfl rfl hl.1 rfl (lv_room (Nat.le_of_ble_eq_true rfl)) dX5_tellLength_20 ⟨Nat.le_of_ble_eq_true rfl, Nat.le_of_ble_eq_true rfl⟩) hS (fun q _ h => hFc q h) hFc (fun  ws_9 t9 H1 locs ht9 hvm9 hw9 hB9 hz9 hk9 hS => ?_)
    obtain ⟨E_10, Fr_11, hG, hP1, hD1⟩ := hB9
    have hP : va_P (gD g) cl0 ws_9 H1 := by rw [← ht9]; exact hP1
    have hD : va_D A ws_9 := hD1.weaken (fun _ _ _ h => hFc _ h)
    clear hP1 hD1 hz9 hk9 hvm9 ht9 hw9
    generalize H1 = H at hP hS ⊢
    have aa_14 := a_r1_1
    have aa_15 := a_r2_1
    have aa_16 := a_r4_1
    have aa_17 := a_r6_1
    have aa_18 := a_r8_1
    have aa_19 := a_r9_1
    have aa_20 := a_r10_1
    have o_h0 := E_10.1 _ _ o_h0
    refine lv_aload_n hx hb dX5_tellLength_23 rfl (lv_at hl 0 rfl) ?_
    refine lv_dup hx hb dX5_tellLength_24 rfl ?_
    obtain ⟨fs9, hk_21, hq_21⟩ := ((gF.a (F' := [(5, 14), (5, 19)]) Fr_11 (fun _ h => h))) _ _ _ hk_1
    obtain ⟨v0_21, r1_21, n1_21, r2_21, n2_21, c3_21, r4_21, n4_21, c5_21, r6_21, n6_21, c7_21, r8_21, n8_21, r9_21, n9_21, r10_21, n10_21, c11_21, v12_21, c13_21, c14_21, c15_21, l16_21, c17_21, c18_21, c19_21, rfl, o_v0_21, F_v0_21, a_r1_21, f3_21, a_r2_21, f5_21, a_r4_21, f7_21, a_r6_21, f9_21, a_r8_21, f11_21, a_r9_21, f13_21, a_r10_21, f15_21, o_v12_21, f17_21, f18_21, f19_21, f20_21, f21_21, f22_21, f23_21, f24_21, f25_21, f26_21, f27_21, f28_21, f29_21, f30_21, f31_21, -⟩ := (hG.1 _ _ _ _ hk_21).hX5 rfl
    have hn9 := fe_qr (hq_21 0 (by decide))
    subst hn9
    have o_b_2 := o_v0_21 _ rfl
    have F_b_2 := F_v0_21 _ rfl
    have hn9 := fe_qr (hq_21 12 (by decide))
    subst hn9
    have o_b_3 := o_v12_21 _ rfl
    obtain rfl := fe_i (hq_21 13 (by decide))
    refine va_get (D := gD g) (ci := 5) (v := .int c13_1) (C := RX5) (T := TX5) (N := 20) hx hb hts inX5 hown hK hP k_1 hk_21 rfl 13 (by decide) (hts _ kw_1021) (fun _ h9 => h9) rfl dX5_tellLength_25 ?_
    refine lv_iconst (v := 1) hx hb dX5_tellLength_28 (by decide) ?_
    refine lv_iadd hx hb dX5_tellLength_29 ?_
    refine lv_topi (fun z_22 ez_22 => ?_)
    have hV9 : okv ws_9 5 13 (.int z_22) := okv_i
    refine va_put (D := gD g) (ci := 5) (v := .int z_22) (ty := .int) (C := RX5) (T := TX5) (N := 20) hx hb hts inX5 tyX5 tyX5_ok nmX5 hown hK hP hD hS k_1 hk_21 rfl 13 (by decide) (hts _ kw_1021) (fun _ h9 => h9) rfl (by decide +kernel) rfl rfl (Nat.le_of_ble_eq_true rfl) dX5_tellLength_30 (fun H locs hP hD hS => ?_)
    have hi_23 : invX5 g ws_9 h0 [.ref b_2, .ref r1_21, .ref r2_21, .int c3_21, .ref r4_21, .int c5_21, .ref r6_21, .int c7_21, .ref r8_21, .ref r9_21, .ref r10_21, .int c11_21, .ref b_3, .int z_22, .int c14_21, .int c15_21, .long l16_21, .int c17_21, .int c18_21, .int c19_21] := ⟨(some b_2), r1_21, (n1_21), r2_21, (n2_21), (c3_21), r4_21, (n4_21), (c5_21), r6_21, (n6_21), (c7_21), r8_21, (n8_21), r9_21, (n9_21), r10_21, (n10_21), (c11_21), (some b_3), (z_22), (c14_21), (c15_21), (l16_21), (c17_21), (c18_21), (c19_21), rfl, (fun b h9 => by cases h9; exact o_b_2), (fun b h9 => by cases h9; exact F_b_2), a_r1_21, f3_21, a_r2_21, f5_21, a_r4_21, f7_21, a_r6_21, f9_21, a_r8_21, f11_21, a_r9_21, f13_21, a_r10_21, f15_21, (fun b h9 => by cases h9; exact o_b_3), f17_21, f18_21, f19_21, f20_21, f21_21, f22_21, f23_21, f24_21, f25_21, f26_21, f27_21, f28_21, f29_21, f30_21, f31_21, trivial⟩
    obtain ⟨ws_24, e_ws_24⟩ : ∃ z, z = ws_9.set k_1 (h0, .inr (5, [.ref b_2, .ref r1_21, .ref r2_21, .int c3_21, .ref r4_21, .int c5_21, .ref r6_21, .int c7_21, .ref r8_21, .ref r9_21, .ref r10_21, .int c11_21, .ref b_3, .int z_22, .int c14_21, .int c15_21, .long l16_21, .int c17_21, .int c18_21, .int c19_21])) := ⟨_, rfl⟩
    have hP : va_P (gD g) cl0 ws_24 H := by rw [e_ws_24]; exact hP
    have hD : va_D A ws_24 := by rw [e_ws_24]; exact hD
    have E_25 : gE ws_9 ws_24 := gE_set e_ws_24 hk_21 (cw_o (fi := 13) (v := .int z_22) rfl (by decide))
    have hG : Good g ws_24 := Good_set (fi := 13) (v := .int z_22) e_ws_24 hk_21 E_25 rfl hV9 hG (ivX5 hi_23)
    have Fr_26 : gF [(5, 13)] [] (some h0) ws_9 ws_24 := gF_put (fi := 13) (v := .int z_22) e_ws_24 hk_21 rfl (by decide)
    have hkN := gset_self e_ws_24 hk_21
    have hk_21 := hkN
    have o_h0 := E_25.1 _ _ o_h0
    have a_r1_21 := E_25.1 _ _ a_r1_21
    have a_r2_21 := E_25.1 _ _ a_r2_21
    have a_r4_21 := E_25.1 _ _ a_r4_21
    have a_r6_21 := E_25.1 _ _ a_r6_21
    have a_r8_21 := E_25.1 _ _ a_r8_21
    have a_r9_21 := E_25.1 _ _ a_r9_21
    have a_r10_21 := E_25.1 _ _ a_r10_21
    have o_b_2 := E_25.1 _ _ o_b_2
    have F_b_2 := F_b_2.mo E_25
    have o_b_3 := E_25.1 _ _ o_b_3
    refine W.widen (k := 0) (n := 0) (Nat.le_of_ble_eq_true rfl) (Nat.le_of_ble_eq_true rfl) ?_
    have tq_27 : frP g ws_24 h0 := frP_mo ((gF.tr (gF.mo (F' := [(5, 13), (5, 14), (5, 19)]) (C' := [(5, 9)]) (S' := none) Fr_11 (by decide) (fun _ h => h) (Or.inr rfl)) (gF.mo (F' := [(5, 13), (5, 14), (5, 19)]) (C' := [(5, 9)]) (S' := none) Fr_26 (by decide) (fun _ h => absurd h List.not_mem_nil) (Or.inl rfl)))) (by decide) (by decide) (by decide) (by decide) (by decide) tk0
    have tq_28 : swU ws_24 h0 := swU_mo ((gF.tr (gF.mo (F' := [(5, 13), (5, 14), (5, 19)]) (C' := [(5, 9)]) (S' := none) Fr_11 (by decide) (fun _ h => h) (Or.inr rfl)) (gF.mo (F' := [(5, 13), (5, 14), (5, 19)]) (C' := [(5, 9)]) (S' := none) Fr_26 (by decide) (fun _ h => absurd h List.not_mem_nil) (Or.inl rfl)))) (by decide) (by decide) (by decide) (by decide) (by decide) (by decide) (by decide) (by decide) (by decide) (by decide) (by decide) tk1
    have tq_29 : swC ws_24 h0 := swC_mo ((gF.tr (gF.mo (F' := [(5, 13), (5, 14), (5, 19)]) (C' := [(5, 9)]) (S' := none) Fr_11 (by decide) (fun _ h => h) (Or.inr rfl)) (gF.mo (F' := [(5, 13), (5, 14), (5, 19)]) (C' := [(5, 9)]) (S' := none) Fr_26 (by decide) (fun _ h => absurd h List.not_mem_nil) (Or.inl rfl)))) (by decide) (by decide) (by decide) (by decide) (by decide) (by decide) (by decide) (by decide) (by decide) tk2
    have tq_30 : arP g ws_24 h0 := arP_mo ((gF.tr (gF.mo (F' := [(5, 13), (5, 14), (5, 19)]) (C' := [(5, 9)]) (S' := none) Fr_11 (by decide) (fun _ h => h) (Or.inr rfl)) (gF.mo (F' := [(5, 13), (5, 14), (5, 19)]) (C' := [(5, 9)]) (S' := none) Fr_26 (by decide) (fun _ h => absurd h List.not_mem_nil) (Or.inl rfl)))) ((E_10.tr E_25)) (by decide) (by decide) tk3
    exact W.vret hx hb hr (fun t9 ht9 hW9 => ⟨⟨ws_24, rfl, ⟨trivial, (gN_of hD hk_21 (j := 0) rfl), (gN_of hD hk_21 (j := 12) rfl), tq_27, tq_28, tq_29, tq_30⟩, ⟨(E_10.tr E_25), (gF.tr (gF.mo (F' := [(5, 11), (5, 12), (5, 13), (5, 14), (5, 15), (5, 17), (5, 19)]) (C' := [(5, 9)]) (S' := none) Fr_11 (by decide) (fun _ h => h) (Or.inr rfl)) (gF.mo (F' := [(5, 11), (5, 12), (5, 13), (5, 14), (5, 15), (5, 17), (5, 19)]) (C' := [(5, 9)]) (S' := none) Fr_26 (by decide) (fun _ h => absurd h List.not_mem_nil) (Or.inl rfl))), hG, by rw [ht9]; exact hP, hD⟩⟩, hS.F ht9⟩) hS.2.2 dX5_tellLength_33
  · refine lv_aload_n hx hb dX5_tellLength_6 rfl (lv_at hl 0 rfl) ?_
    refine lv_iconst (v := 1) hx hb dX5_tellLength_7 (by decide) ?_
    have hFc := gfree hD hS hA
    refine va_callv (va_runV (As := [.int 1]) (rest := []) ⟨hx, hb, hml, hown, hts⟩ (m_X5_raise l g s.heap.size ws h0 (1) hG o_h0 (gN_of hD hk_1 (j := 0) rfl) (gN_of hD hk_1 (j := 12) rfl) tk0 tk1 tk2 tk3) (cwV 1 hts (gd_V kw_1017 kw_1136 kw_1137 kw_398 kw_1135) rfl rfl rfl (by decide +kernel) ⟨Nat.le_of_ble_eq_true rfl, Nat.le_of_ble_eq_true rfl⟩) ⟨gblind, va_recv hK hP (ci := 5) (q0 := k_1) rfl hk_1, fun U hU hW9 => gmk hU hW9 hP hK hD hex hE hS hFc⟩ rfl rfl hl.1 rfl (lv_room (Nat.le_of_ble_eq_true rfl)) dX5_tellLength_8 ⟨Nat.le_of_ble_eq_true rfl, Nat.le_of_ble_eq_true rfl⟩) hS (fun q _ h => hFc q h) hFc (fun  ws_31 t9 H1 locs ht9 hvm9 hw9 hB9 hz9 hk9 hS => ?_)
    obtain ⟨E_32, Fr_33, hG, hP1, hD1⟩ := hB9
    have hP : va_P (gD g) cl0 ws_31 H1 := by rw [← ht9]; exact hP1
    have hD : va_D A ws_31 := hD1.weaken (fun _ _ _ h => hFc _ h)
    obtain ⟨hw9, xp_36, xp_37, xp_38, xp_39, xp_40, xp_41⟩ := hw9
    clear hP1 hD1 hz9 hk9 hvm9 ht9 hw9
    generalize H1 = H at hP hS ⊢
    have aa_42 := a_r1_1
    have aa_43 := a_r2_1
    have aa_44 := a_r4_1
    have aa_45 := a_r6_1
    have aa_46 := a_r8_1
    have aa_47 := a_r9_1
    have aa_48 := a_r10_1
    have o_h0 := E_32.1 _ _ o_h0
    obtain ⟨fs9, hk_49, hq_49⟩ := ((gF.a (F' := [(5, 11), (5, 12), (5, 13), (5, 14), (5, 15), (5, 17), (5, 19)]) Fr_33 (fun _ h => h))) _ _ _ hk_1
    obtain ⟨v0_49, r1_49, n1_49, r2_49, n2_49, c3_49, r4_49, n4_49, c5_49, r6_49, n6_49, c7_49, r8_49, n8_49, r9_49, n9_49, r10_49, n10_49, c11_49, v12_49, c13_49, c14_49, c15_49, l16_49, c17_49, c18_49, c19_49, rfl, o_v0_49, F_v0_49, a_r1_49, f3_49, a_r2_49, f5_49, a_r4_49, f7_49, a_r6_49, f9_49, a_r8_49, f11_49, a_r9_49, f13_49, a_r10_49, f15_49, o_v12_49, f17_49, f18_49, f19_49, f20_49, f21_49, f22_49, f23_49, f24_49, f25_49, f26_49, f27_49, f28_49, f29_49, f30_49, f31_49, -⟩ := (hG.1 _ _ _ _ hk_49).hX5 rfl
    have hn9 := fe_qr (hq_49 0 (by decide))
    subst hn9
    have o_b_2 := o_v0_49 _ rfl
    have F_b_2 := F_v0_49 _ rfl
    obtain ⟨b_50, hn9⟩ := xp_37 _ _ _ hk_49
    have hn9 := fe_qr hn9
    subst hn9
    have o_b_50 := o_v12_49 _ rfl
    refine W.widen (k := 0) (n := 0) (Nat.le_of_ble_eq_true rfl) (Nat.le_of_ble_eq_true rfl) ?_
    exact W.vret hx hb hr (fun t9 ht9 hW9 => ⟨⟨ws_31, rfl, ⟨trivial, (gN_of hD hk_49 (j := 0) rfl), (gN_of hD hk_49 (j := 12) rfl), xp_38, xp_39, xp_40, xp_41⟩, ⟨E_32, Fr_33, hG, by rw [ht9]; exact hP, hD⟩⟩, hS.F ht9⟩) hS.2.2 dX5_tellLength_11
set_option maxHeartbeats 1000000 in
set_option maxRecDepth 100000 in
theorem m_X5_useElement (l : Launch) (g : Gm) (sz : Nat) (ws : va_W) (h0 : Nat) (x1 : Int32) (hG : Good g ws) (o_h0 : gC ws h0 5) (nn_h0_0 : gN ws h0 0) (nn_h0_12 : gN ws h0 12) (tk0 : frP g ws h0) (tk1 : swU ws h0) (tk2 : swC ws h0) (tk3 : arP g ws h0) : Met l yX5_useElement (wt yX5_useElement cX5_useElement 6 none) ({ frames := 3, cells := 0, slots := 0, locals := 67 }) (va_Pc [.ref h0, .int x1] (st_G g sz ws)) (va_Qv (fun (u9 : va_W) => (True) ∧ (gN u9 h0 0) ∧ (gN u9 h0 12) ∧ (frP g u9 h0) ∧ (swU u9 h0) ∧ (swC u9 h0) ∧ (arP g u9 h0)) (gQ1 g [(5, 11), (5, 12), (5, 13), (5, 14), (5, 15), (5, 17), (5, 19)] [(5, 2), (5, 9)] none (va_A ws sz) ws) (va_A ws sz)) (0) (0) (va_A ws sz) := by
  refine Met.ofW (cc := cX5_useElement) (maxL := 6) (ret := none) (by decide) rfl ?_
  intro p e s m args below meth c s₁ B hml hv
  obtain ⟨rfl, hsz, hP, hK, hD0, hex, hE⟩ := hv
  have hx := B.exec
  have hb := B.bytes
  have hr := B.returns
  have hts0 := atoms_spec (ws := wt yX5_useElement cX5_useElement 6 none) B.pre
  have hts : ∀ w ∈ tb, w.before _ s = true := fun w h => hts0 w (List.mem_cons_of_mem _ h)
  have hown : s.vm.findClass RX5 = some m.cls := findClass_of_methodNamed B.named
  subst hsz
  have hD := hD0.self (sz := s.heap.size)
  generalize hAe : va_A ws s.heap.size = A at hD hE ⊢
  have hA : ∀ q : Nat, s.heap.size ≤ q → A q := fun q h => by rw [← hAe]; exact Or.inr h
  have hS : va_S A s.heap s.heap [] := va_S.rf
  have hl := lv_entry ([.ref h0, .int x1]) (n := 6) (Nat.le_of_ble_eq_true rfl)
  rw [lg_entry_eq]
  generalize (lg_sl ([.ref h0, .int x1]) ++ List.replicate (6 - (lg_sl ([.ref h0, .int x1])).length) Slot.unset).toArray = ls at hl ⊢
  have hl : lv_has ls 6 [(0, .ref h0), (1, .int x1)] := hl
  obtain ⟨k_1, fs9, hk_1⟩ := gC_of o_h0
  obtain ⟨v0_1, r1_1, n1_1, r2_1, n2_1, c3_1, r4_1, n4_1, c5_1, r6_1, n6_1, c7_1, r8_1, n8_1, r9_1, n9_1, r10_1, n10_1, c11_1, v12_1, c13_1, c14_1, c15_1, l16_1, c17_1, c18_1, c19_1, rfl, o_v0_1, F_v0_1, a_r1_1, f3_1, a_r2_1, f5_1, a_r4_1, f7_1, a_r6_1, f9_1, a_r8_1, f11_1, a_r9_1, f13_1, a_r10_1, f15_1, o_v12_1, f17_1, f18_1, f19_1, f20_1, f21_1, f22_1, f23_1, f24_1, f25_1, f26_1, f27_1, f28_1, f29_1, f30_1, f31_1, -⟩ := (hG.1 _ _ _ _ hk_1).hX5 rfl
  obtain ⟨b_2, hn9⟩ := nn_h0_0 _ _ _ hk_1
  have hn9 := fe_qr hn9
  subst hn9
  have o_b_2 := o_v0_1 _ rfl
  have F_b_2 := F_v0_1 _ rfl
  obtain ⟨b_3, hn9⟩ := nn_h0_12 _ _ _ hk_1
  have hn9 := fe_qr hn9
  subst hn9
  have o_b_3 := o_v12_1 _ rfl
  refine lv_iload_n hx hb dX5_useElement_0 rfl (lv_at hl 1 rfl) ?_
  refine lv_bipush (v := 79) hx hb dX5_useElement_1 (by decide) ?_
  have J_15 : ∀ (t_4 : Int32) (ws_5 : va_W) (H : Heap) (locs : List Loc) (ls : Array Slot), gE ws ws_5 → gF [(5, 14), (5, 19)] [] none ws ws_5 → Good g ws_5 → va_P (gD g) cl0 ws_5 H → va_D A ws_5 → va_S A s.heap H locs → lv_has ls 6 [(0, .ref h0), (1, .int x1)] → W p l e (headSpec (wt yX5_useElement cX5_useElement 6 none) ({ frames := 3, cells := 0, slots := 0, locals := 67 })).room s m ([.ref h0, .int x1] : List Value).toArray below meth c H locs (0) (0) (MQ below (va_Qv (fun (u9 : va_W) => (True) ∧ (gN u9 h0 0) ∧ (gN u9 h0 12) ∧ (frP g u9 h0) ∧ (swU u9 h0) ∧ (swC u9 h0) ∧ (arP g u9 h0)) (gQ1 g [(5, 11), (5, 12), (5, 13), (5, 14), (5, 15), (5, 17), (5, 19)] [(5, 2), (5, 9)] none A ws) A) ([.ref h0, .int x1] : List Value).toArray s (0) (0) A) (F0 m 15 ls [.int t_4]) := by
    intro t_4 ws_5 H locs ls  E_6 Fr_7 hG hP hD hS hl
    have aa_8 := a_r1_1
    have aa_9 := a_r2_1
    have aa_10 := a_r4_1
    have aa_11 := a_r6_1
    have aa_12 := a_r8_1
    have aa_13 := a_r9_1
    have aa_14 := a_r10_1
    have o_h0 := E_6.1 _ _ o_h0
    refine lv_istore_n (lv' := [(2, .int t_4), (0, .ref h0), (1, .int x1)]) hx hb dX5_useElement_15 rfl hl (by decide) rfl (fun ls hl => ?_)
    refine lv_aload_n hx hb dX5_useElement_16 rfl (lv_at hl 1 rfl) ?_
    have hFc := gfree hD hS hA
    obtain ⟨k_15, fs_15, hk_15⟩ := gC_of o_h0
    refine va_calll (va_runV (As := []) (rest := []) ⟨hx, hb, hml, hown, hts⟩ (m_X5_pop l g H.size ws_5 h0 hG o_h0) (cwV 0 hts (gd_V kw_1080 kw_1124 kw_1125 kw_398 kw_1123) rfl rfl rfl (by decide +kernel) ⟨Nat.le_of_ble_eq_true rfl, Nat.le_of_ble_eq_true rfl⟩) ⟨gblind, va_recv hK hP (ci := 5) (q0 := k_15) rfl hk_15, fun U hU hW9 => gmk hU hW9 hP hK hD hex hE hS hFc⟩ rfl rfl hl.1 rfl (lv_room (Nat.le_of_ble_eq_true rfl)) dX5_useElement_17 ⟨Nat.le_of_ble_eq_true rfl, Nat.le_of_ble_eq_true rfl⟩) hS (fun q _ h => hFc q h) hFc (fun r_16 ws_17 t9 H1 locs ht9 hvm9 hw9 hB9 hz9 hk9 hS => ?_)
    obtain ⟨E_18, Fr_19, hG, hP1, hD1⟩ := hB9
    have hP : va_P (gD g) cl0 ws_17 H1 := by rw [← ht9]; exact hP1
    have hD : va_D A ws_17 := hD1.weaken (fun _ _ _ h => hFc _ h)
    clear hP1 hD1 hz9 hk9 hvm9 ht9 hw9
    generalize H1 = H at hP hS ⊢
    have o_h0 := E_18.1 _ _ o_h0
    obtain ⟨z_22, ez_22⟩ : ∃ y : Int32, (r_16 : Int64).toInt32 = y := ⟨_, rfl⟩
    refine lv_l2i (v := z_22) hx hb dX5_useElement_20 ez_22 ?_
    refine lv_istore_n (lv' := [(3, .int z_22), (2, .int t_4), (0, .ref h0), (1, .int x1)]) hx hb dX5_useElement_21 rfl hl (by decide) rfl (fun ls hl => ?_)
    refine lv_aload_n hx hb dX5_useElement_22 rfl (lv_at hl 2 rfl) ?_
    have hFc := gfree hD hS hA
    obtain ⟨k_23, fs_23, hk_23⟩ := gC_of o_h0
    refine va_calll (va_runV (As := []) (rest := []) ⟨hx, hb, hml, hown, hts⟩ (m_X5_pop l g H.size ws_17 h0 hG o_h0) (cwV 0 hts (gd_V kw_1080 kw_1124 kw_1125 kw_398 kw_1123) rfl rfl rfl (by decide +kernel) ⟨Nat.le_of_ble_eq_true rfl, Nat.le_of_ble_eq_true rfl⟩) ⟨gblind, va_recv hK hP (ci := 5) (q0 := k_23) rfl hk_23, fun U hU hW9 => gmk hU hW9 hP hK hD hex hE hS hFc⟩ rfl rfl hl.1 rfl (lv_room (Nat.le_of_ble_eq_true rfl)) dX5_useElement_23 ⟨Nat.le_of_ble_eq_true rfl, Nat.le_of_ble_eq_true rfl⟩) hS (fun q _ h => hFc q h) hFc (fun r_24 ws_25 t9 H1 locs ht9 hvm9 hw9 hB9 hz9 hk9 hS => ?_)
    obtain ⟨E_26, Fr_27, hG, hP1, hD1⟩ := hB9
    have hP : va_P (gD g) cl0 ws_25 H1 := by rw [← ht9]; exact hP1
    have hD : va_D A ws_25 := hD1.weaken (fun _ _ _ h => hFc _ h)
    clear hP1 hD1 hz9 hk9 hvm9 ht9 hw9
    generalize H1 = H at hP hS ⊢
    have o_h0 := E_26.1 _ _ o_h0
    obtain ⟨z_30, ez_30⟩ : ∃ y : Int32, (r_24 : Int64).toInt32 = y := ⟨_, rfl⟩
    refine lv_l2i (v := z_30) hx hb dX5_useElement_26 ez_30 ?_
    refine lv_istore (lv' := [(4, .int z_30), (3, .int z_22), (2, .int t_4), (0, .ref h0), (1, .int x1)]) hx hb dX5_useElement_27 hl (by decide) rfl (fun ls hl => ?_)
    refine lv_iload hx hb dX5_useElement_29 (lv_at hl 0 rfl) ?_
    refine lv_if_ne (tgt := 40) hx hb dX5_useElement_31 (by decide) (fun c_31 => ?_) (fun c_31 => ?_)
    · refine lv_iload_n hx hb dX5_useElement_40 rfl (lv_at hl 1 rfl) ?_
      have J_54 : ∀  (H : Heap) (locs : List Loc) (ls : Array Slot), va_P (gD g) cl0 ws_25 H → va_D A ws_25 → va_S A s.heap H locs → lv_has ls 6 [(0, .ref h0)] → W p l e (headSpec (wt yX5_useElement cX5_useElement 6 none) ({ frames := 3, cells := 0, slots := 0, locals := 67 })).room s m ([.ref h0, .int x1] : List Value).toArray below meth c H locs (0) (0) (MQ below (va_Qv (fun (u9 : va_W) => (True) ∧ (gN u9 h0 0) ∧ (gN u9 h0 12) ∧ (frP g u9 h0) ∧ (swU u9 h0) ∧ (swC u9 h0) ∧ (arP g u9 h0)) (gQ1 g [(5, 11), (5, 12), (5, 13), (5, 14), (5, 15), (5, 17), (5, 19)] [(5, 2), (5, 9)] none A ws) A) ([.ref h0, .int x1] : List Value).toArray s (0) (0) A) (F0 m 54 ls []) := by
        intro  H locs ls  hP hD hS hl
        refine lv_aload_n hx hb dX5_useElement_54 rfl (lv_at hl 0 rfl) ?_
        refine lv_iconst (v := 2) hx hb dX5_useElement_55 (by decide) ?_
        obtain ⟨fs9, hk_34, hq_34⟩ := ((gA.tr (gF.a (F' := [(5, 14), (5, 19)]) Fr_7 (fun _ h => h)) (gA.tr (gF.a (F' := [(5, 14), (5, 19)]) Fr_19 (fun _ h => h)) (gF.a (F' := [(5, 14), (5, 19)]) Fr_27 (fun _ h => h))))) _ _ _ hk_1
        obtain ⟨v0_34, r1_34, n1_34, r2_34, n2_34, c3_34, r4_34, n4_34, c5_34, r6_34, n6_34, c7_34, r8_34, n8_34, r9_34, n9_34, r10_34, n10_34, c11_34, v12_34, c13_34, c14_34, c15_34, l16_34, c17_34, c18_34, c19_34, rfl, o_v0_34, F_v0_34, a_r1_34, f3_34, a_r2_34, f5_34, a_r4_34, f7_34, a_r6_34, f9_34, a_r8_34, f11_34, a_r9_34, f13_34, a_r10_34, f15_34, o_v12_34, f17_34, f18_34, f19_34, f20_34, f21_34, f22_34, f23_34, f24_34, f25_34, f26_34, f27_34, f28_34, f29_34, f30_34, f31_34, -⟩ := (hG.1 _ _ _ _ hk_34).hX5 rfl
        have hn9 := fe_qr (hq_34 0 (by decide))
        subst hn9
        have o_b_2 := o_v0_34 _ rfl
        have F_b_2 := F_v0_34 _ rfl
        obtain rfl := fe_r (hq_34 2 (by decide))
        have hn9 := gI_n hD (((E_6.tr (E_18.tr E_26))).1 _ _ aa_9) a_r2_34
        subst hn9
        have a_r2_1 := a_r2_34
        have hn9 := fe_qr (hq_34 12 (by decide))
        subst hn9
        have o_b_3 := o_v12_34 _ rfl
        obtain rfl := fe_i (hq_34 13 (by decide))
        have tq_35 : frP g ws_25 h0 := frP_mo ((gF.tr Fr_7 (gF.tr Fr_19 Fr_27))) (by decide) (by decide) (by decide) (by decide) (by decide) tk0
        have tq_36 : swU ws_25 h0 := swU_mo ((gF.tr Fr_7 (gF.tr Fr_19 Fr_27))) (by decide) (by decide) (by decide) (by decide) (by decide) (by decide) (by decide) (by decide) (by decide) (by decide) (by decide) tk1
        have tq_37 : swC ws_25 h0 := swC_mo ((gF.tr Fr_7 (gF.tr Fr_19 Fr_27))) (by decide) (by decide) (by decide) (by decide) (by decide) (by decide) (by decide) (by decide) (by decide) tk2
        have tq_38 : arP g ws_25 h0 := arP_mo ((gF.tr Fr_7 (gF.tr Fr_19 Fr_27))) ((E_6.tr (E_18.tr E_26))) (by decide) (by decide) tk3
        have hFc := gfree hD hS hA
        refine va_callv (va_runV (As := [.int 2]) (rest := []) ⟨hx, hb, hml, hown, hts⟩ (m_X5_raise l g H.size ws_25 h0 (2) hG o_h0 (gN_of hD hk_34 (j := 0) rfl) (gN_of hD hk_34 (j := 12) rfl) tq_35 tq_36 tq_37 tq_38) (cwV 1 hts (gd_V kw_1017 kw_1136 kw_1137 kw_398 kw_1135) rfl rfl rfl (by decide +kernel) ⟨Nat.le_of_ble_eq_true rfl, Nat.le_of_ble_eq_true rfl⟩) ⟨gblind, va_recv hK hP (ci := 5) (q0 := k_1) rfl hk_34, fun U hU hW9 => gmk hU hW9 hP hK hD hex hE hS hFc⟩ rfl rfl hl.1 rfl (lv_room (Nat.le_of_ble_eq_true rfl)) dX5_useElement_56 ⟨Nat.le_of_ble_eq_true rfl, Nat.le_of_ble_eq_true rfl⟩) hS (fun q _ h => hFc q h) hFc (fun  ws_39 t9 H1 locs ht9 hvm9 hw9 hB9 hz9 hk9 hS => ?_)
        obtain ⟨E_40, Fr_41, hG, hP1, hD1⟩ := hB9
        have hP : va_P (gD g) cl0 ws_39 H1 := by rw [← ht9]; exact hP1
        have hD : va_D A ws_39 := hD1.weaken (fun _ _ _ h => hFc _ h)
        obtain ⟨hw9, xp_44, xp_45, xp_46, xp_47, xp_48, xp_49⟩ := hw9
        clear hP1 hD1 hz9 hk9 hvm9 ht9 hw9
        generalize H1 = H at hP hS ⊢
        have aa_50 := a_r1_34
        have aa_51 := a_r2_1
        have aa_52 := a_r4_34
        have aa_53 := a_r6_34
        have aa_54 := a_r8_34
        have aa_55 := a_r9_34
        have aa_56 := a_r10_34
        have o_h0 := E_40.1 _ _ o_h0
        obtain ⟨fs9, hk_57, hq_57⟩ := ((gF.a (F' := [(5, 11), (5, 12), (5, 13), (5, 14), (5, 15), (5, 17), (5, 19)]) Fr_41 (fun _ h => h))) _ _ _ hk_34
        obtain ⟨v0_57, r1_57, n1_57, r2_57, n2_57, c3_57, r4_57, n4_57, c5_57, r6_57, n6_57, c7_57, r8_57, n8_57, r9_57, n9_57, r10_57, n10_57, c11_57, v12_57, c13_57, c14_57, c15_57, l16_57, c17_57, c18_57, c19_57, rfl, o_v0_57, F_v0_57, a_r1_57, f3_57, a_r2_57, f5_57, a_r4_57, f7_57, a_r6_57, f9_57, a_r8_57, f11_57, a_r9_57, f13_57, a_r10_57, f15_57, o_v12_57, f17_57, f18_57, f19_57, f20_57, f21_57, f22_57, f23_57, f24_57, f25_57, f26_57, f27_57, f28_57, f29_57, f30_57, f31_57, -⟩ := (hG.1 _ _ _ _ hk_57).hX5 rfl
        have hn9 := fe_qr (hq_57 0 (by decide))
        subst hn9
        have o_b_2 := o_v0_57 _ rfl
        have F_b_2 := F_v0_57 _ rfl
        obtain rfl := fe_r (hq_57 2 (by decide))
        have hn9 := gI_n hD ((E_40).1 _ _ aa_51) a_r2_57
        subst hn9
        have a_r2_1 := a_r2_57
        obtain ⟨b_58, hn9⟩ := xp_45 _ _ _ hk_57
        have hn9 := fe_qr hn9
        subst hn9
        have o_b_58 := o_v12_57 _ rfl
        refine W.widen (k := 0) (n := 0) (Nat.le_of_ble_eq_true rfl) (Nat.le_of_ble_eq_true rfl) ?_
        exact W.vret hx hb hr (fun t9 ht9 hW9 => ⟨⟨ws_39, rfl, ⟨trivial, (gN_of hD hk_57 (j := 0) rfl), (gN_of hD hk_57 (j := 12) rfl), xp_46, xp_47, xp_48, xp_49⟩, ⟨(E_6.tr (E_18.tr (E_26.tr E_40))), (gF.tr (gF.mo (F' := [(5, 11), (5, 12), (5, 13), (5, 14), (5, 15), (5, 17), (5, 19)]) (C' := [(5, 2), (5, 9)]) (S' := none) Fr_7 (by decide) (fun _ h => absurd h List.not_mem_nil) (Or.inr rfl)) (gF.tr (gF.mo (F' := [(5, 11), (5, 12), (5, 13), (5, 14), (5, 15), (5, 17), (5, 19)]) (C' := [(5, 2), (5, 9)]) (S' := none) Fr_19 (by decide) (fun _ h => absurd h List.not_mem_nil) (Or.inr rfl)) (gF.tr (gF.mo (F' := [(5, 11), (5, 12), (5, 13), (5, 14), (5, 15), (5, 17), (5, 19)]) (C' := [(5, 2), (5, 9)]) (S' := none) Fr_27 (by decide) (fun _ h => absurd h List.not_mem_nil) (Or.inr rfl)) (gF.mo (F' := [(5, 11), (5, 12), (5, 13), (5, 14), (5, 15), (5, 17), (5, 19)]) (C' := [(5, 2), (5, 9)]) (S' := none) Fr_41 (fun _ h => h) (by decide) (Or.inr rfl))))), hG, by rw [ht9]; exact hP, hD⟩⟩, hS.F ht9⟩) hS.2.2 dX5_useElement_59
      refine lv_if_lt (tgt := 54) hx hb dX5_useElement_41 (by decide) (fun c_59 => ?_) (fun c_59 => ?_)
      · exact J_54  H locs ls  hP hD hS (lv_sub hl [3] rfl)
      · refine lv_iload_n hx hb dX5_useElement_44 rfl (lv_at hl 1 rfl) ?_
        refine lv_aload_n hx hb dX5_useElement_45 rfl (lv_at hl 3 rfl) ?_
        refine lv_iload hx hb dX5_useElement_46 (lv_at hl 0 rfl) ?_
        have hFc := gfree hD hS hA
        obtain ⟨k_60, fs_60, hk_60⟩ := gC_of o_h0
        refine va_calli (va_runV (As := [.int z_30]) (rest := [.int z_22]) ⟨hx, hb, hml, hown, hts⟩ (m_X5_lengthOf l g H.size ws_25 h0 (z_30) hG o_h0) (cwV 1 hts (gd_V kw_1035 kw_1088 kw_1089 kw_398 kw_1087) rfl rfl rfl (by decide +kernel) ⟨Nat.le_of_ble_eq_true rfl, Nat.le_of_ble_eq_true rfl⟩) ⟨gblind, va_recv hK hP (ci := 5) (q0 := k_60) rfl hk_60, fun U hU hW9 => gmk hU hW9 hP hK hD hex hE hS hFc⟩ rfl rfl hl.1 rfl (lv_room (Nat.le_of_ble_eq_true rfl)) dX5_useElement_48 ⟨Nat.le_of_ble_eq_true rfl, Nat.le_of_ble_eq_true rfl⟩) hS (fun q _ h => hFc q h) hFc (fun r_61 u9 t9 H1 locs ht9 hvm9 hw9 hB9 hz9 hk9 hS => ?_)
        have hP : va_P (gD g) cl0 ws_25 H1 := by rw [← ht9]; exact hB9.1
        clear hB9 hz9 hk9 hvm9 ht9 hw9
        generalize H1 = H at hP hS ⊢
        refine lv_icmp_lt (tgt := 60) hx hb dX5_useElement_51 (by decide) (fun c_62 => ?_) (fun c_62 => ?_)
        · refine lv_aload_n hx hb dX5_useElement_60 rfl (lv_at hl 3 rfl) ?_
          refine lv_iload hx hb dX5_useElement_61 (lv_at hl 0 rfl) ?_
          have hFc := gfree hD hS hA
          obtain ⟨k_63, fs_63, hk_63⟩ := gC_of o_h0
          refine va_calli (va_runV (As := [.int z_30]) (rest := []) ⟨hx, hb, hml, hown, hts⟩ (m_X5_arrayStart l g H.size ws_25 h0 (z_30) hG o_h0) (cwV 1 hts (gd_V kw_1036 kw_1006 kw_1007 kw_398 kw_1005) rfl rfl rfl (by decide +kernel) ⟨Nat.le_of_ble_eq_true rfl, Nat.le_of_ble_eq_true rfl⟩) ⟨gblind, va_recv hK hP (ci := 5) (q0 := k_63) rfl hk_63, fun U hU hW9 => gmk hU hW9 hP hK hD hex hE hS hFc⟩ rfl rfl hl.1 rfl (lv_room (Nat.le_of_ble_eq_true rfl)) dX5_useElement_63 ⟨Nat.le_of_ble_eq_true rfl, Nat.le_of_ble_eq_true rfl⟩) hS (fun q _ h => hFc q h) hFc (fun r_64 u9 t9 H1 locs ht9 hvm9 hw9 hB9 hz9 hk9 hS => ?_)
          have hP : va_P (gD g) cl0 ws_25 H1 := by rw [← ht9]; exact hB9.1
          clear hB9 hz9 hk9 hvm9 ht9 hw9
          generalize H1 = H at hP hS ⊢
          refine lv_iload_n hx hb dX5_useElement_66 rfl (lv_at hl 1 rfl) ?_
          refine lv_iadd hx hb dX5_useElement_67 ?_
          refine lv_topi (fun z_65 ez_65 => ?_)
          refine lv_istore (lv' := [(5, .int z_65), (4, .int z_30), (3, .int z_22), (2, .int t_4), (0, .ref h0), (1, .int x1)]) hx hb dX5_useElement_68 hl (by decide) rfl (fun ls hl => ?_)
          refine lv_iload_n hx hb dX5_useElement_70 rfl (lv_at hl 5 rfl) ?_
          refine lv_bipush (v := 46) hx hb dX5_useElement_71 (by decide) ?_
          have J_113 : ∀ (ws_66 : va_W) (H : Heap) (locs : List Loc) (ls : Array Slot), gE ws_25 ws_66 → gF [(5, 14), (5, 19)] [(5, 2), (5, 9)] none ws_25 ws_66 → Good g ws_66 → va_P (gD g) cl0 ws_66 H → va_D A ws_66 → va_S A s.heap H locs → lv_has ls 6 [(0, .ref h0)] → W p l e (headSpec (wt yX5_useElement cX5_useElement 6 none) ({ frames := 3, cells := 0, slots := 0, locals := 67 })).room s m ([.ref h0, .int x1] : List Value).toArray below meth c H locs (0) (0) (MQ below (va_Qv (fun (u9 : va_W) => (True) ∧ (gN u9 h0 0) ∧ (gN u9 h0 12) ∧ (frP g u9 h0) ∧ (swU u9 h0) ∧ (swC u9 h0) ∧ (arP g u9 h0)) (gQ1 g [(5, 11), (5, 12), (5, 13), (5, 14), (5, 15), (5, 17), (5, 19)] [(5, 2), (5, 9)] none A ws) A) ([.ref h0, .int x1] : List Value).toArray s (0) (0) A) (F0 m 113 ls []) := by
            intro ws_66 H locs ls  E_67 Fr_68 hG hP hD hS hl
            have o_h0 := E_67.1 _ _ o_h0
            refine lv_aload_n hx hb dX5_useElement_113 rfl (lv_at hl 0 rfl) ?_
            refine lv_dup hx hb dX5_useElement_114 rfl ?_
            obtain ⟨fs9, hk_69, hq_69⟩ := ((gA.tr (gF.a (F' := [(5, 14), (5, 19)]) Fr_7 (fun _ h => h)) (gA.tr (gF.a (F' := [(5, 14), (5, 19)]) Fr_19 (fun _ h => h)) (gA.tr (gF.a (F' := [(5, 14), (5, 19)]) Fr_27 (fun _ h => h)) (gF.a (F' := [(5, 14), (5, 19)]) Fr_68 (fun _ h => h)))))) _ _ _ hk_1
            obtain ⟨v0_69, r1_69, n1_69, r2_69, n2_69, c3_69, r4_69, n4_69, c5_69, r6_69, n6_69, c7_69, r8_69, n8_69, r9_69, n9_69, r10_69, n10_69, c11_69, v12_69, c13_69, c14_69, c15_69, l16_69, c17_69, c18_69, c19_69, rfl, o_v0_69, F_v0_69, a_r1_69, f3_69, a_r2_69, f5_69, a_r4_69, f7_69, a_r6_69, f9_69, a_r8_69, f11_69, a_r9_69, f13_69, a_r10_69, f15_69, o_v12_69, f17_69, f18_69, f19_69, f20_69, f21_69, f22_69, f23_69, f24_69, f25_69, f26_69, f27_69, f28_69, f29_69, f30_69, f31_69, -⟩ := (hG.1 _ _ _ _ hk_69).hX5 rfl
            have hn9 := fe_qr (hq_69 0 (by decide))
            subst hn9
            have o_b_2 := o_v0_69 _ rfl
            have F_b_2 := F_v0_69 _ rfl
            obtain rfl := fe_r (hq_69 2 (by decide))
            have hn9 := gI_n hD (((E_6.tr (E_18.tr (E_26.tr E_67)))).1 _ _ aa_9) a_r2_69
            subst hn9
            have a_r2_1 := a_r2_69
            have hn9 := fe_qr (hq_69 12 (by decide))
            subst hn9
            have o_b_3 := o_v12_69 _ rfl
            obtain rfl := fe_i (hq_69 13 (by decide))
            refine va_get (D := gD g) (ci := 5) (v := .int c13_1) (C := RX5) (T := TX5) (N := 20) hx hb hts inX5 hown hK hP k_1 hk_69 rfl 13 (by decide) (hts _ kw_1021) (fun _ h9 => h9) rfl dX5_useElement_115 ?_
            refine lv_iconst (v := 1) hx hb dX5_useElement_118 (by decide) ?_
            refine lv_iadd hx hb dX5_useElement_119 ?_
            refine lv_topi (fun z_70 ez_70 => ?_)
            have hV9 : okv ws_66 5 13 (.int z_70) := okv_i
            refine va_put (D := gD g) (ci := 5) (v := .int z_70) (ty := .int) (C := RX5) (T := TX5) (N := 20) hx hb hts inX5 tyX5 tyX5_ok nmX5 hown hK hP hD hS k_1 hk_69 rfl 13 (by decide) (hts _ kw_1021) (fun _ h9 => h9) rfl (by decide +kernel) rfl rfl (Nat.le_of_ble_eq_true rfl) dX5_useElement_120 (fun H locs hP hD hS => ?_)
            have hi_71 : invX5 g ws_66 h0 [.ref b_2, .ref r1_69, .ref r2_1, .int c3_69, .ref r4_69, .int c5_69, .ref r6_69, .int c7_69, .ref r8_69, .ref r9_69, .ref r10_69, .int c11_69, .ref b_3, .int z_70, .int c14_69, .int c15_69, .long l16_69, .int c17_69, .int c18_69, .int c19_69] := ⟨(some b_2), r1_69, (n1_69), r2_1, (n2_1), (c3_69), r4_69, (n4_69), (c5_69), r6_69, (n6_69), (c7_69), r8_69, (n8_69), r9_69, (n9_69), r10_69, (n10_69), (c11_69), (some b_3), (z_70), (c14_69), (c15_69), (l16_69), (c17_69), (c18_69), (c19_69), rfl, (fun b h9 => by cases h9; exact o_b_2), (fun b h9 => by cases h9; exact F_b_2), a_r1_69, f3_69, a_r2_1, f5_69, a_r4_69, f7_69, a_r6_69, f9_69, a_r8_69, f11_69, a_r9_69, f13_69, a_r10_69, f15_69, (fun b h9 => by cases h9; exact o_b_3), f17_69, f18_69, f19_69, f20_69, f21_69, f22_69, f23_69, f24_69, f25_69, f26_69, f27_69, f28_69, f29_69, f30_69, f31_69, trivial⟩
            obtain ⟨ws_72, e_ws_72⟩ : ∃ z, z = ws_66.set k_1 (h0, .inr (5, [.ref b_2, .ref r1_69, .ref r2_1, .int c3_69, .ref r4_69, .int c5_69, .ref r6_69, .int c7_69, .ref r8_69, .ref r9_69, .ref r10_69, .int c11_69, .ref b_3, .int z_70, .int c14_69, .int c15_69, .long l16_69, .int c17_69, .int c18_69, .int c19_69])) := ⟨_, rfl⟩
            have hP : va_P (gD g) cl0 ws_72 H := by rw [e_ws_72]; exact hP
            have hD : va_D A ws_72 := by rw [e_ws_72]; exact hD
            have E_73 : gE ws_66 ws_72 := gE_set e_ws_72 hk_69 (cw_o (fi := 13) (v := .int z_70) rfl (by decide))
            have hG : Good g ws_72 := Good_set (fi := 13) (v := .int z_70) e_ws_72 hk_69 E_73 rfl hV9 hG (ivX5 hi_71)
            have Fr_74 : gF [(5, 13)] [] (some h0) ws_66 ws_72 := gF_put (fi := 13) (v := .int z_70) e_ws_72 hk_69 rfl (by decide)
            have hkN := gset_self e_ws_72 hk_69
            have hk_69 := hkN
            have o_h0 := E_73.1 _ _ o_h0
            have a_r1_69 := E_73.1 _ _ a_r1_69
            have a_r4_69 := E_73.1 _ _ a_r4_69
            have a_r6_69 := E_73.1 _ _ a_r6_69
            have a_r8_69 := E_73.1 _ _ a_r8_69
            have a_r9_69 := E_73.1 _ _ a_r9_69
            have a_r10_69 := E_73.1 _ _ a_r10_69
            have o_b_2 := E_73.1 _ _ o_b_2
            have F_b_2 := F_b_2.mo E_73
            have a_r2_1 := E_73.1 _ _ a_r2_1
            have o_b_3 := E_73.1 _ _ o_b_3
            refine W.widen (k := 0) (n := 0) (Nat.le_of_ble_eq_true rfl) (Nat.le_of_ble_eq_true rfl) ?_
            have tq_75 : frP g ws_72 h0 := frP_mo ((gF.tr (gF.mo (F' := [(5, 13), (5, 14), (5, 19)]) (C' := [(5, 2), (5, 9)]) (S' := none) Fr_7 (by decide) (fun _ h => absurd h List.not_mem_nil) (Or.inr rfl)) (gF.tr (gF.mo (F' := [(5, 13), (5, 14), (5, 19)]) (C' := [(5, 2), (5, 9)]) (S' := none) Fr_19 (by decide) (fun _ h => absurd h List.not_mem_nil) (Or.inr rfl)) (gF.tr (gF.mo (F' := [(5, 13), (5, 14), (5, 19)]) (C' := [(5, 2), (5, 9)]) (S' := none) Fr_27 (by decide) (fun _ h => absurd h List.not_mem_nil) (Or.inr rfl)) (gF.tr (gF.mo (F' := [(5, 13), (5, 14), (5, 19)]) (C' := [(5, 2), (5, 9)]) (S' := none) Fr_68 (by decide) (fun _ h => h) (Or.inr rfl)) (gF.mo (F' := [(5, 13), (5, 14), (5, 19)]) (C' := [(5, 2), (5, 9)]) (S' := none) Fr_74 (by decide) (fun _ h => absurd h List.not_mem_nil) (Or.inl rfl))))))) (by decide) (by decide) (by decide) (by decide) (by decide) tk0
            have tq_76 : swU ws_72 h0 := swU_mo ((gF.tr (gF.mo (F' := [(5, 13), (5, 14), (5, 19)]) (C' := [(5, 2), (5, 9)]) (S' := none) Fr_7 (by decide) (fun _ h => absurd h List.not_mem_nil) (Or.inr rfl)) (gF.tr (gF.mo (F' := [(5, 13), (5, 14), (5, 19)]) (C' := [(5, 2), (5, 9)]) (S' := none) Fr_19 (by decide) (fun _ h => absurd h List.not_mem_nil) (Or.inr rfl)) (gF.tr (gF.mo (F' := [(5, 13), (5, 14), (5, 19)]) (C' := [(5, 2), (5, 9)]) (S' := none) Fr_27 (by decide) (fun _ h => absurd h List.not_mem_nil) (Or.inr rfl)) (gF.tr (gF.mo (F' := [(5, 13), (5, 14), (5, 19)]) (C' := [(5, 2), (5, 9)]) (S' := none) Fr_68 (by decide) (fun _ h => h) (Or.inr rfl)) (gF.mo (F' := [(5, 13), (5, 14), (5, 19)]) (C' := [(5, 2), (5, 9)]) (S' := none) Fr_74 (by decide) (fun _ h => absurd h List.not_mem_nil) (Or.inl rfl))))))) (by decide) (by decide) (by decide) (by decide) (by decide) (by decide) (by decide) (by decide) (by decide) (by decide) (by decide) tk1
            have tq_77 : swC ws_72 h0 := swC_mo ((gF.tr (gF.mo (F' := [(5, 13), (5, 14), (5, 19)]) (C' := [(5, 2), (5, 9)]) (S' := none) Fr_7 (by decide) (fun _ h => absurd h List.not_mem_nil) (Or.inr rfl)) (gF.tr (gF.mo (F' := [(5, 13), (5, 14), (5, 19)]) (C' := [(5, 2), (5, 9)]) (S' := none) Fr_19 (by decide) (fun _ h => absurd h List.not_mem_nil) (Or.inr rfl)) (gF.tr (gF.mo (F' := [(5, 13), (5, 14), (5, 19)]) (C' := [(5, 2), (5, 9)]) (S' := none) Fr_27 (by decide) (fun _ h => absurd h List.not_mem_nil) (Or.inr rfl)) (gF.tr (gF.mo (F' := [(5, 13), (5, 14), (5, 19)]) (C' := [(5, 2), (5, 9)]) (S' := none) Fr_68 (by decide) (fun _ h => h) (Or.inr rfl)) (gF.mo (F' := [(5, 13), (5, 14), (5, 19)]) (C' := [(5, 2), (5, 9)]) (S' := none) Fr_74 (by decide) (fun _ h => absurd h List.not_mem_nil) (Or.inl rfl))))))) (by decide) (by decide) (by decide) (by decide) (by decide) (by decide) (by decide) (by decide) (by decide) tk2
            have tq_78 : arP g ws_72 h0 := arP_mo ((gF.tr (gF.mo (F' := [(5, 13), (5, 14), (5, 19)]) (C' := [(5, 2), (5, 9)]) (S' := none) Fr_7 (by decide) (fun _ h => absurd h List.not_mem_nil) (Or.inr rfl)) (gF.tr (gF.mo (F' := [(5, 13), (5, 14), (5, 19)]) (C' := [(5, 2), (5, 9)]) (S' := none) Fr_19 (by decide) (fun _ h => absurd h List.not_mem_nil) (Or.inr rfl)) (gF.tr (gF.mo (F' := [(5, 13), (5, 14), (5, 19)]) (C' := [(5, 2), (5, 9)]) (S' := none) Fr_27 (by decide) (fun _ h => absurd h List.not_mem_nil) (Or.inr rfl)) (gF.tr (gF.mo (F' := [(5, 13), (5, 14), (5, 19)]) (C' := [(5, 2), (5, 9)]) (S' := none) Fr_68 (by decide) (fun _ h => h) (Or.inr rfl)) (gF.mo (F' := [(5, 13), (5, 14), (5, 19)]) (C' := [(5, 2), (5, 9)]) (S' := none) Fr_74 (by decide) (fun _ h => absurd h List.not_mem_nil) (Or.inl rfl))))))) ((E_6.tr (E_18.tr (E_26.tr (E_67.tr E_73))))) (by decide) (by decide) tk3
            exact W.vret hx hb hr (fun t9 ht9 hW9 => ⟨⟨ws_72, rfl, ⟨trivial, (gN_of hD hk_69 (j := 0) rfl), (gN_of hD hk_69 (j := 12) rfl), tq_75, tq_76, tq_77, tq_78⟩, ⟨(E_6.tr (E_18.tr (E_26.tr (E_67.tr E_73)))), (gF.tr (gF.mo (F' := [(5, 11), (5, 12), (5, 13), (5, 14), (5, 15), (5, 17), (5, 19)]) (C' := [(5, 2), (5, 9)]) (S' := none) Fr_7 (by decide) (fun _ h => absurd h List.not_mem_nil) (Or.inr rfl)) (gF.tr (gF.mo (F' := [(5, 11), (5, 12), (5, 13), (5, 14), (5, 15), (5, 17), (5, 19)]) (C' := [(5, 2), (5, 9)]) (S' := none) Fr_19 (by decide) (fun _ h => absurd h List.not_mem_nil) (Or.inr rfl)) (gF.tr (gF.mo (F' := [(5, 11), (5, 12), (5, 13), (5, 14), (5, 15), (5, 17), (5, 19)]) (C' := [(5, 2), (5, 9)]) (S' := none) Fr_27 (by decide) (fun _ h => absurd h List.not_mem_nil) (Or.inr rfl)) (gF.tr (gF.mo (F' := [(5, 11), (5, 12), (5, 13), (5, 14), (5, 15), (5, 17), (5, 19)]) (C' := [(5, 2), (5, 9)]) (S' := none) Fr_68 (by decide) (fun _ h => h) (Or.inr rfl)) (gF.mo (F' := [(5, 11), (5, 12), (5, 13), (5, 14), (5, 15), (5, 17), (5, 19)]) (C' := [(5, 2), (5, 9)]) (S' := none) Fr_74 (by decide) (fun _ h => absurd h List.not_mem_nil) (Or.inl rfl)))))), hG, by rw [ht9]; exact hP, hD⟩⟩, hS.F ht9⟩) hS.2.2 dX5_useElement_123
          refine lv_icmp_ne (tgt := 90) hx hb dX5_useElement_73 (by decide) (fun c_79 => ?_) (fun c_79 => ?_)
          · refine lv_iload hx hb dX5_useElement_90 (lv_at hl 0 rfl) ?_
            refine lv_if_lt (tgt := 113) hx hb dX5_useElement_92 (by decide) (fun c_80 => ?_) (fun c_80 => ?_)
            · exact J_113 ws_25 H locs ls (gE.rf) (gF.rf) hG hP hD hS (lv_sub hl [4] rfl)
            · refine lv_iload hx hb dX5_useElement_95 (lv_at hl 0 rfl) ?_
              refine lv_aload_n hx hb dX5_useElement_97 rfl (lv_at hl 4 rfl) ?_
              obtain ⟨fs9, hk_81, hq_81⟩ := ((gA.tr (gF.a (F' := [(5, 14), (5, 19)]) Fr_7 (fun _ h => h)) (gA.tr (gF.a (F' := [(5, 14), (5, 19)]) Fr_19 (fun _ h => h)) (gF.a (F' := [(5, 14), (5, 19)]) Fr_27 (fun _ h => h))))) _ _ _ hk_1
              obtain ⟨v0_81, r1_81, n1_81, r2_81, n2_81, c3_81, r4_81, n4_81, c5_81, r6_81, n6_81, c7_81, r8_81, n8_81, r9_81, n9_81, r10_81, n10_81, c11_81, v12_81, c13_81, c14_81, c15_81, l16_81, c17_81, c18_81, c19_81, rfl, o_v0_81, F_v0_81, a_r1_81, f3_81, a_r2_81, f5_81, a_r4_81, f7_81, a_r6_81, f9_81, a_r8_81, f11_81, a_r9_81, f13_81, a_r10_81, f15_81, o_v12_81, f17_81, f18_81, f19_81, f20_81, f21_81, f22_81, f23_81, f24_81, f25_81, f26_81, f27_81, f28_81, f29_81, f30_81, f31_81, -⟩ := (hG.1 _ _ _ _ hk_81).hX5 rfl
              have hn9 := fe_qr (hq_81 0 (by decide))
              subst hn9
              have o_b_2 := o_v0_81 _ rfl
              have F_b_2 := F_v0_81 _ rfl
              obtain rfl := fe_r (hq_81 2 (by decide))
              have hn9 := gI_n hD (((E_6.tr (E_18.tr E_26))).1 _ _ aa_9) a_r2_81
              subst hn9
              have a_r2_1 := a_r2_81
              have hn9 := fe_qr (hq_81 12 (by decide))
              subst hn9
              have o_b_3 := o_v12_81 _ rfl
              obtain rfl := fe_i (hq_81 13 (by decide))
              refine va_get (D := gD g) (ci := 5) (v := .ref r2_1) (C := RX5) (T := TX5) (N := 20) hx hb hts inX5 hown hK hP k_1 hk_81 rfl 2 (by decide) (hts _ kw_1069) (fun _ h9 => h9) rfl dX5_useElement_98 ?_
              obtain ⟨k_82, f_82, hk_82⟩ := gI_of a_r2_1
              obtain ⟨z_83, ez_83⟩ : ∃ z : Int32, Int32.ofNat n2_1 = z := ⟨_, rfl⟩
              refine va_alen (v := z_83) hx hb hK hP k_82 1 hk_82 rfl ez_83 dX5_useElement_101 ?_
              refine lv_icmp_ge (tgt := 113) hx hb dX5_useElement_102 (by decide) (fun c_84 => ?_) (fun c_84 => ?_)
              · exact J_113 ws_25 H locs ls (gE.rf) (gF.rf) hG hP hD hS (lv_sub hl [4] rfl)
              · refine lv_aload_n hx hb dX5_useElement_105 rfl (lv_at hl 4 rfl) ?_
                refine va_get (D := gD g) (ci := 5) (v := .ref r2_1) (C := RX5) (T := TX5) (N := 20) hx hb hts inX5 hown hK hP k_1 hk_81 rfl 2 (by decide) (hts _ kw_1069) (fun _ h9 => h9) rfl dX5_useElement_106 ?_
                refine lv_iload hx hb dX5_useElement_109 (lv_at hl 0 rfl) ?_
                refine lv_iload_n hx hb dX5_useElement_111 rfl (lv_at hl 3 rfl) ?_
                have hC9 : hol ws_25 r2_1 [(5, 2)] := (hol_u hG.u hk_81 (j := 2) rfl a_r2_1 (by decide))
                have hS9 : holS ws_25 r2_1 none := holS_n
                refine va_iast hx hb hK hP hD hS k_82 1 hk_82 rfl (i_in2 (by have e0 : (0 : Int32).toInt = 0 := (by decide); have q_f5_1 := f5_1; have q_f27_1 := f27_1; obtain ⟨u_z_65, q_z_65⟩ := i_add ez_65; have q_c_80 := i_nlt c_80; have q_z_83 := i_len ez_83 f5_81; have q_c_84 := i_nle c_84; have q_z_22 := l_2i ez_22; have q_c_59 := i_nlt c_59; have q_c_62 := i_lt c_62; have g_r_61 := i_rg r_61; have g_r_64 := i_rg r_64; have g_z_22 := i_rg z_22; have g_z_65 := i_rg z_65; have g_z_83 := i_rg z_83; omega)) dX5_useElement_112 (fun H locs hP hD hS => ?_)
                obtain ⟨ws_85, e_ws_85⟩ : ∃ z, z = ws_25.set k_82 (r2_1, .inl (g.cI, n2_1, .inl (upd f_82 (z_65 : Int32).toNatClampNeg t_4))) := ⟨_, rfl⟩
                have hP : va_P (gD g) cl0 ws_85 H := by rw [e_ws_85]; exact hP
                have hD : va_D A ws_85 := by rw [e_ws_85]; exact hD
                have E_86 : gE ws_25 ws_85 := gE_ari e_ws_85 hk_82
                have hG : Good g ws_85 := Good_arI e_ws_85 hk_82 hG
                have Fr_87 : gF [] [(5, 2)] none ws_25 ws_85 := gF_ar e_ws_85 hk_82 rfl hC9 hS9
                have hk_81 := gset_arO e_ws_85 hk_82 hk_81
                have o_h0 := E_86.1 _ _ o_h0
                have a_r1_81 := E_86.1 _ _ a_r1_81
                have a_r4_81 := E_86.1 _ _ a_r4_81
                have a_r6_81 := E_86.1 _ _ a_r6_81
                have a_r8_81 := E_86.1 _ _ a_r8_81
                have a_r9_81 := E_86.1 _ _ a_r9_81
                have a_r10_81 := E_86.1 _ _ a_r10_81
                have o_b_2 := E_86.1 _ _ o_b_2
                have F_b_2 := F_b_2.mo E_86
                have a_r2_1 := E_86.1 _ _ a_r2_1
                have o_b_3 := E_86.1 _ _ o_b_3
                exact J_113 ws_85 H locs ls (E_86) ((gF.mo (F' := [(5, 14), (5, 19)]) (C' := [(5, 2), (5, 9)]) (S' := none) Fr_87 (fun _ h => absurd h List.not_mem_nil) (by decide) (Or.inr rfl))) hG hP hD hS (lv_sub hl [4] rfl)
          · refine lv_aload_n hx hb dX5_useElement_76 rfl (lv_at hl 4 rfl) ?_
            refine lv_aload_n hx hb dX5_useElement_77 rfl (lv_at hl 4 rfl) ?_
            refine lv_iload hx hb dX5_useElement_78 (lv_at hl 0 rfl) ?_
            have hFc := gfree hD hS hA
            obtain ⟨k_88, fs_88, hk_88⟩ := gC_of o_h0
            refine va_calli (va_runV (As := [.int z_65]) (rest := [.ref h0]) ⟨hx, hb, hml, hown, hts⟩ (m_X5_heapAt l g H.size ws_25 h0 (z_65) hG o_h0) (cwV 1 hts (gd_V kw_1037 kw_1067 kw_1068 kw_398 kw_1066) rfl rfl rfl (by decide +kernel) ⟨Nat.le_of_ble_eq_true rfl, Nat.le_of_ble_eq_true rfl⟩) ⟨gblind, va_recv hK hP (ci := 5) (q0 := k_88) rfl hk_88, fun U hU hW9 => gmk hU hW9 hP hK hD hex hE hS hFc⟩ rfl rfl hl.1 rfl (lv_room (Nat.le_of_ble_eq_true rfl)) dX5_useElement_80 ⟨Nat.le_of_ble_eq_true rfl, Nat.le_of_ble_eq_true rfl⟩) hS (fun q _ h => hFc q h) hFc (fun r_89 ws_90 t9 H1 locs ht9 hvm9 hw9 hB9 hz9 hk9 hS => ?_)
            obtain ⟨E_91, Fr_92, hG, hP1, hD1⟩ := hB9
            have hP : va_P (gD g) cl0 ws_90 H1 := by rw [← ht9]; exact hP1
            have hD : va_D A ws_90 := hD1.weaken (fun _ _ _ h => hFc _ h)
            clear hP1 hD1 hz9 hk9 hvm9 ht9 hw9
            generalize H1 = H at hP hS ⊢
            have o_h0 := E_91.1 _ _ o_h0
            obtain ⟨z_95, ez_95⟩ : ∃ y : Int64, (r_89 : Int32).toInt64 = y := ⟨_, rfl⟩
            refine lv_i2l (v := z_95) hx hb dX5_useElement_83 ez_95 ?_
            have hFc := gfree hD hS hA
            obtain ⟨k_96, fs_96, hk_96⟩ := gC_of o_h0
            refine va_callv (va_runV (As := [.long z_95]) (rest := []) ⟨hx, hb, hml, hown, hts⟩ (m_X5_push l g H.size ws_90 h0 (z_95) hG o_h0) (cwV 1 hts (gd_V kw_1099 kw_1130 kw_1131 kw_398 kw_1129) rfl rfl rfl (by decide +kernel) ⟨Nat.le_of_ble_eq_true rfl, Nat.le_of_ble_eq_true rfl⟩) ⟨gblind, va_recv hK hP (ci := 5) (q0 := k_96) rfl hk_96, fun U hU hW9 => gmk hU hW9 hP hK hD hex hE hS hFc⟩ rfl rfl hl.1 rfl (lv_room (Nat.le_of_ble_eq_true rfl)) dX5_useElement_84 ⟨Nat.le_of_ble_eq_true rfl, Nat.le_of_ble_eq_true rfl⟩) hS (fun q _ h => hFc q h) hFc (fun  ws_97 t9 H1 locs ht9 hvm9 hw9 hB9 hz9 hk9 hS => ?_)
            obtain ⟨E_98, Fr_99, hG, hP1, hD1⟩ := hB9
            have hP : va_P (gD g) cl0 ws_97 H1 := by rw [← ht9]; exact hP1
            have hD : va_D A ws_97 := hD1.weaken (fun _ _ _ h => hFc _ h)
            clear hP1 hD1 hz9 hk9 hvm9 ht9 hw9
            generalize H1 = H at hP hS ⊢
            have o_h0 := E_98.1 _ _ o_h0
            refine lv_goto (tgt := 113) hx hb dX5_useElement_87 (by decide) ?_
            exact J_113 ws_97 H locs ls ((E_91.tr E_98)) ((gF.tr (gF.mo (F' := [(5, 14), (5, 19)]) (C' := [(5, 2), (5, 9)]) (S' := none) Fr_92 (by decide) (fun _ h => absurd h List.not_mem_nil) (Or.inr rfl)) (gF.mo (F' := [(5, 14), (5, 19)]) (C' := [(5, 2), (5, 9)]) (S' := none) Fr_99 (fun _ h => h) (by decide) (Or.inr rfl)))) hG hP hD hS (lv_sub hl [4] rfl)
        · exact J_54  H locs ls  hP hD hS (lv_sub hl [3] rfl)
    · refine lv_aload_n hx hb dX5_useElement_34 rfl (lv_at hl 3 rfl) ?_
      refine lv_iconst (v := 1) hx hb dX5_useElement_35 (by decide) ?_
      obtain ⟨fs9, hk_102, hq_102⟩ := ((gA.tr (gF.a (F' := [(5, 14), (5, 19)]) Fr_7 (fun _ h => h)) (gA.tr (gF.a (F' := [(5, 14), (5, 19)]) Fr_19 (fun _ h => h)) (gF.a (F' := [(5, 14), (5, 19)]) Fr_27 (fun _ h => h))))) _ _ _ hk_1
      obtain ⟨v0_102, r1_102, n1_102, r2_102, n2_102, c3_102, r4_102, n4_102, c5_102, r6_102, n6_102, c7_102, r8_102, n8_102, r9_102, n9_102, r10_102, n10_102, c11_102, v12_102, c13_102, c14_102, c15_102, l16_102, c17_102, c18_102, c19_102, rfl, o_v0_102, F_v0_102, a_r1_102, f3_102, a_r2_102, f5_102, a_r4_102, f7_102, a_r6_102, f9_102, a_r8_102, f11_102, a_r9_102, f13_102, a_r10_102, f15_102, o_v12_102, f17_102, f18_102, f19_102, f20_102, f21_102, f22_102, f23_102, f24_102, f25_102, f26_102, f27_102, f28_102, f29_102, f30_102, f31_102, -⟩ := (hG.1 _ _ _ _ hk_102).hX5 rfl
      have hn9 := fe_qr (hq_102 0 (by decide))
      subst hn9
      have o_b_2 := o_v0_102 _ rfl
      have F_b_2 := F_v0_102 _ rfl
      obtain rfl := fe_r (hq_102 2 (by decide))
      have hn9 := gI_n hD (((E_6.tr (E_18.tr E_26))).1 _ _ aa_9) a_r2_102
      subst hn9
      have a_r2_1 := a_r2_102
      have hn9 := fe_qr (hq_102 12 (by decide))
      subst hn9
      have o_b_3 := o_v12_102 _ rfl
      obtain rfl := fe_i (hq_102 13 (by decide))
      have tq_103 : frP g ws_25 h0 := frP_mo ((gF.tr Fr_7 (gF.tr Fr_19 Fr_27))) (by decide) (by decide) (by decide) (by decide) (by decide) tk0
      have tq_104 : swU ws_25 h0 := swU_mo ((gF.tr Fr_7 (gF.tr Fr_19 Fr_27))) (by decide) (by decide) (by decide) (by decide) (by decide) (by decide) (by decide) (by decide) (by decide) (by decide) (by decide) tk1
      have tq_105 : swC ws_25 h0 := swC_mo ((gF.tr Fr_7 (gF.tr Fr_19 Fr_27))) (by decide) (by decide) (by decide) (by decide) (by decide) (by decide) (by decide) (by decide) (by decide) tk2
      have tq_106 : arP g ws_25 h0 := arP_mo ((gF.tr Fr_7 (gF.tr Fr_19 Fr_27))) ((E_6.tr (E_18.tr E_26))) (by decide) (by decide) tk3
      have hFc := gfree hD hS hA
      refine va_callv (va_runV (As := [.int 1]) (rest := []) ⟨hx, hb, hml, hown, hts⟩ (m_X5_raise l g H.size ws_25 h0 (1) hG o_h0 (gN_of hD hk_102 (j := 0) rfl) (gN_of hD hk_102 (j := 12) rfl) tq_103 tq_104 tq_105 tq_106) (cwV 1 hts (gd_V kw_1017 kw_1136 kw_1137 kw_398 kw_1135) rfl rfl rfl (by decide +kernel) ⟨Nat.le_of_ble_eq_true rfl, Nat.le_of_ble_eq_true rfl⟩) ⟨gblind, va_recv hK hP (ci := 5) (q0 := k_1) rfl hk_102, fun U hU hW9 => gmk hU hW9 hP hK hD hex hE hS hFc⟩ rfl rfl hl.1 rfl (lv_room (Nat.le_of_ble_eq_true rfl)) dX5_useElement_36 ⟨Nat.le_of_ble_eq_true rfl, Nat.le_of_ble_eq_true rfl⟩) hS (fun q _ h => hFc q h) hFc (fun  ws_107 t9 H1 locs ht9 hvm9 hw9 hB9 hz9 hk9 hS => ?_)
      obtain ⟨E_108, Fr_109, hG, hP1, hD1⟩ := hB9
      have hP : va_P (gD g) cl0 ws_107 H1 := by rw [← ht9]; exact hP1
      have hD : va_D A ws_107 := hD1.weaken (fun _ _ _ h => hFc _ h)
      obtain ⟨hw9, xp_112, xp_113, xp_114, xp_115, xp_116, xp_117⟩ := hw9
      clear hP1 hD1 hz9 hk9 hvm9 ht9 hw9
      generalize H1 = H at hP hS ⊢
      have aa_118 := a_r1_102
      have aa_119 := a_r2_1
      have aa_120 := a_r4_102
      have aa_121 := a_r6_102
      have aa_122 := a_r8_102
      have aa_123 := a_r9_102
      have aa_124 := a_r10_102
      have o_h0 := E_108.1 _ _ o_h0
      obtain ⟨fs9, hk_125, hq_125⟩ := ((gF.a (F' := [(5, 11), (5, 12), (5, 13), (5, 14), (5, 15), (5, 17), (5, 19)]) Fr_109 (fun _ h => h))) _ _ _ hk_102
      obtain ⟨v0_125, r1_125, n1_125, r2_125, n2_125, c3_125, r4_125, n4_125, c5_125, r6_125, n6_125, c7_125, r8_125, n8_125, r9_125, n9_125, r10_125, n10_125, c11_125, v12_125, c13_125, c14_125, c15_125, l16_125, c17_125, c18_125, c19_125, rfl, o_v0_125, F_v0_125, a_r1_125, f3_125, a_r2_125, f5_125, a_r4_125, f7_125, a_r6_125, f9_125, a_r8_125, f11_125, a_r9_125, f13_125, a_r10_125, f15_125, o_v12_125, f17_125, f18_125, f19_125, f20_125, f21_125, f22_125, f23_125, f24_125, f25_125, f26_125, f27_125, f28_125, f29_125, f30_125, f31_125, -⟩ := (hG.1 _ _ _ _ hk_125).hX5 rfl
      have hn9 := fe_qr (hq_125 0 (by decide))
      subst hn9
      have o_b_2 := o_v0_125 _ rfl
      have F_b_2 := F_v0_125 _ rfl
      obtain rfl := fe_r (hq_125 2 (by decide))
      have hn9 := gI_n hD ((E_108).1 _ _ aa_119) a_r2_125
      subst hn9
      have a_r2_1 := a_r2_125
      obtain ⟨b_126, hn9⟩ := xp_113 _ _ _ hk_125
      have hn9 := fe_qr hn9
      subst hn9
      have o_b_126 := o_v12_125 _ rfl
      refine W.widen (k := 0) (n := 0) (Nat.le_of_ble_eq_true rfl) (Nat.le_of_ble_eq_true rfl) ?_
      exact W.vret hx hb hr (fun t9 ht9 hW9 => ⟨⟨ws_107, rfl, ⟨trivial, (gN_of hD hk_125 (j := 0) rfl), (gN_of hD hk_125 (j := 12) rfl), xp_114, xp_115, xp_116, xp_117⟩, ⟨(E_6.tr (E_18.tr (E_26.tr E_108))), (gF.tr (gF.mo (F' := [(5, 11), (5, 12), (5, 13), (5, 14), (5, 15), (5, 17), (5, 19)]) (C' := [(5, 2), (5, 9)]) (S' := none) Fr_7 (by decide) (fun _ h => absurd h List.not_mem_nil) (Or.inr rfl)) (gF.tr (gF.mo (F' := [(5, 11), (5, 12), (5, 13), (5, 14), (5, 15), (5, 17), (5, 19)]) (C' := [(5, 2), (5, 9)]) (S' := none) Fr_19 (by decide) (fun _ h => absurd h List.not_mem_nil) (Or.inr rfl)) (gF.tr (gF.mo (F' := [(5, 11), (5, 12), (5, 13), (5, 14), (5, 15), (5, 17), (5, 19)]) (C' := [(5, 2), (5, 9)]) (S' := none) Fr_27 (by decide) (fun _ h => absurd h List.not_mem_nil) (Or.inr rfl)) (gF.mo (F' := [(5, 11), (5, 12), (5, 13), (5, 14), (5, 15), (5, 17), (5, 19)]) (C' := [(5, 2), (5, 9)]) (S' := none) Fr_109 (fun _ h => h) (by decide) (Or.inr rfl))))), hG, by rw [ht9]; exact hP, hD⟩⟩, hS.F ht9⟩) hS.2.2 dX5_useElement_39
  refine lv_icmp_ne (tgt := 14) hx hb dX5_useElement_3 (by decide) (fun c_127 => ?_) (fun c_127 => ?_)
  · refine lv_iconst (v := 0) hx hb dX5_useElement_14 (by decide) ?_
    exact J_15 (0) ws _ _ ls (gE.rf) (gF.rf) hG hP hD hS (lv_sub hl [0, 1] rfl)
  · refine lv_aload_n hx hb dX5_useElement_6 rfl (lv_at hl 0 rfl) ?_
    have hFc := gfree hD hS hA
    refine va_calll (va_runV (As := []) (rest := []) ⟨hx, hb, hml, hown, hts⟩ (m_X5_pop l g s.heap.size ws h0 hG o_h0) (cwV 0 hts (gd_V kw_1080 kw_1124 kw_1125 kw_398 kw_1123) rfl rfl rfl (by decide +kernel) ⟨Nat.le_of_ble_eq_true rfl, Nat.le_of_ble_eq_true rfl⟩) ⟨gblind, va_recv hK hP (ci := 5) (q0 := k_1) rfl hk_1, fun U hU hW9 => gmk hU hW9 hP hK hD hex hE hS hFc⟩ rfl rfl hl.1 rfl (lv_room (Nat.le_of_ble_eq_true rfl)) dX5_useElement_7 ⟨Nat.le_of_ble_eq_true rfl, Nat.le_of_ble_eq_true rfl⟩) hS (fun q _ h => hFc q h) hFc (fun r_128 ws_129 t9 H1 locs ht9 hvm9 hw9 hB9 hz9 hk9 hS => ?_)
    obtain ⟨E_130, Fr_131, hG, hP1, hD1⟩ := hB9
    have hP : va_P (gD g) cl0 ws_129 H1 := by rw [← ht9]; exact hP1
    have hD : va_D A ws_129 := hD1.weaken (fun _ _ _ h => hFc _ h)
    clear hP1 hD1 hz9 hk9 hvm9 ht9 hw9
    generalize H1 = H at hP hS ⊢
    have aa_134 := a_r1_1
    have aa_135 := a_r2_1
    have aa_136 := a_r4_1
    have aa_137 := a_r6_1
    have aa_138 := a_r8_1
    have aa_139 := a_r9_1
    have aa_140 := a_r10_1
    have o_h0 := E_130.1 _ _ o_h0
    obtain ⟨z_141, ez_141⟩ : ∃ y : Int32, (r_128 : Int64).toInt32 = y := ⟨_, rfl⟩
    refine lv_l2i (v := z_141) hx hb dX5_useElement_10 ez_141 ?_
    refine lv_goto (tgt := 15) hx hb dX5_useElement_11 (by decide) ?_
    exact J_15 (z_141) ws_129 H locs ls (E_130) (Fr_131) hG hP hD hS (lv_sub hl [0, 1] rfl)
