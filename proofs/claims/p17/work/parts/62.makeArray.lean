set_option maxHeartbeats 1000000 in
set_option maxRecDepth 100000 in
theorem m_X5_makeArray (l : Launch) (g : Gm) (H0 : Heap) (ws : va_W) (h0 : Nat) (x1 : Int32) (hG : Good g ws) (o_h0 : gC ws h0 5) (nn_h0_0 : gN ws h0 0) (nn_h0_12 : gN ws h0 12) (tk0 : frP g ws h0) (tk1 : swU ws h0) (tk2 : swC ws h0) (tk3 : arP g ws h0) : Met l yX5_makeArray (wt yX5_makeArray cX5_makeArray 3 none) ({ frames := 3, cells := PC ws + (0), slots := PS ws + (0), locals := 67 }) (va_Pc [.ref h0, .int x1] (st_H g H0 ws)) (va_Qv (fun (u9 : va_W) => (True) ∧ (gN u9 h0 0) ∧ (gN u9 h0 12) ∧ (frP g u9 h0) ∧ (swU u9 h0) ∧ (swC u9 h0) ∧ (arP g u9 h0)) (gQ2 g [(5, 2), (5, 3), (5, 4), (5, 5), (5, 11), (5, 12), (5, 13), (5, 14), (5, 15), (5, 17), (5, 19)] [(5, 2), (5, 4), (5, 9)] none (va_A ws H0.size) ws H0 (0) (0)) (va_A ws H0.size)) (PC ws + (0)) (PS ws + (0)) (va_A ws H0.size) := by
  refine Met.ofW (cc := cX5_makeArray) (maxL := 3) (ret := none) (by decide) rfl ?_
  intro p e s m args below meth c s₁ B hml hv
  obtain ⟨rfl, hH0, hsz, hP, hK, hD0, hex, hE⟩ := hv
  have hx := B.exec
  have hb := B.bytes
  have hr := B.returns
  have hts0 := atoms_spec (ws := wt yX5_makeArray cX5_makeArray 3 none) B.pre
  have hts : ∀ w ∈ tb, w.before _ s = true := fun w h => hts0 w (List.mem_cons_of_mem _ h)
  have hown : s.vm.findClass RX5 = some m.cls := findClass_of_methodNamed B.named
  subst hH0
  have hD := hD0.self (sz := s.heap.size)
  generalize hAe : va_A ws s.heap.size = A at hD hE ⊢
  have hA : ∀ q : Nat, s.heap.size ≤ q → A q := fun q h => by rw [← hAe]; exact Or.inr h
  have hS : va_S A s.heap s.heap [] := va_S.rf
  have hl := lv_entry ([.ref h0, .int x1]) (n := 3) (Nat.le_of_ble_eq_true rfl)
  rw [lg_entry_eq]
  generalize (lg_sl ([.ref h0, .int x1]) ++ List.replicate (3 - (lg_sl ([.ref h0, .int x1])).length) Slot.unset).toArray = ls at hl ⊢
  have hl : lv_has ls 3 [(0, .ref h0), (1, .int x1)] := hl
  obtain ⟨k_1, fs9, hk_1⟩ := gC_of o_h0
  obtain ⟨v0_1, r1_1, n1_1, r2_1, n2_1, c3_1, r4_1, n4_1, c5_1, r6_1, n6_1, c7_1, r8_1, n8_1, r9_1, n9_1, r10_1, n10_1, c11_1, v12_1, c13_1, c14_1, c15_1, l16_1, c17_1, c18_1, c19_1, rfl, o_v0_1, F_v0_1, a_r1_1, f3_1, a_r2_1, f5_1, a_r4_1, f7_1, a_r6_1, f9_1, a_r8_1, f11_1, a_r9_1, f13_1, a_r10_1, f15_1, o_v12_1, f17_1, f18_1, f19_1, f20_1, f21_1, f22_1, f23_1, f24_1, f25_1, f26_1, f27_1, f28_1, f29_1, f30_1, f31_1, -⟩ := (hG.1 _ _ _ _ hk_1).hX5 rfl
  obtain ⟨b_2, hn9⟩ := nn_h0_0 _ _ _ hk_1
  have hn9 := fe_qr hn9
  subst hn9
  have o_b_2 := o_v0_1 _ rfl
  have F_b_2 := F_v0_1 _ rfl
  obtain ⟨b_3, hn9⟩ := nn_h0_12 _ _ _ hk_1
  have hn9 := fe_qr hn9
  subst hn9
  have o_b_3 := o_v12_1 _ rfl
  have ar_4 := arP_of hD hk_1 rfl rfl a_r4_1 tk3
  refine lv_iload_n hx hb dX5_makeArray_0 rfl (lv_at hl 1 rfl) ?_
  refine lv_if_ge (tgt := 10) hx hb dX5_makeArray_1 (by decide) (fun c_5 => ?_) (fun c_5 => ?_)
  · refine lv_aload_n hx hb dX5_makeArray_10 rfl (lv_at hl 0 rfl) ?_
    refine va_get (D := gD g) (ci := 5) (v := .int c5_1) (C := RX5) (T := TX5) (N := 20) hx hb hts inX5 hown hK hP k_1 hk_1 rfl 5 (by decide) (hts _ kw_1008) (fun _ h9 => h9) rfl dX5_makeArray_11 ?_
    refine lv_sipush (v := 400) hx hb dX5_makeArray_14 (by decide) ?_
    have J_32 : ∀ (dc_32_1 : Nat) (ds_32_1 : Nat) (H : Heap) (locs : List Loc) (ls : Array Slot), dc_32_1 + PC ws ≤ PC ws + (0) → ds_32_1 + PS ws ≤ PS ws + (0) → va_P (gD g) cl0 ws H → va_D A ws → va_S A s.heap H locs → lv_has ls 3 [(0, .ref h0)] → W p l e (headSpec (wt yX5_makeArray cX5_makeArray 3 none) ({ frames := 3, cells := PC ws + (0), slots := PS ws + (0), locals := 67 })).room s m ([.ref h0, .int x1] : List Value).toArray below meth c H locs (dc_32_1) (ds_32_1) (MQ below (va_Qv (fun (u9 : va_W) => (True) ∧ (gN u9 h0 0) ∧ (gN u9 h0 12) ∧ (frP g u9 h0) ∧ (swU u9 h0) ∧ (swC u9 h0) ∧ (arP g u9 h0)) (gQ2 g [(5, 2), (5, 3), (5, 4), (5, 5), (5, 11), (5, 12), (5, 13), (5, 14), (5, 15), (5, 17), (5, 19)] [(5, 2), (5, 4), (5, 9)] none A ws s.heap (0) (0)) A) ([.ref h0, .int x1] : List Value).toArray s (PC ws + (0)) (PS ws + (0)) A) (F0 m 32 ls []) := by
      intro dc_32_1 ds_32_1 H locs ls  hc9 hs9 hP hD hS hl
      refine lv_aload_n hx hb dX5_makeArray_32 rfl (lv_at hl 0 rfl) ?_
      refine lv_iconst (v := 4) hx hb dX5_makeArray_33 (by decide) ?_
      have hV9 : okv ws 5 15 (.int 4) := okv_i
      refine va_put (D := gD g) (ci := 5) (v := .int 4) (ty := .int) (C := RX5) (T := TX5) (N := 20) hx hb hts inX5 tyX5 tyX5_ok nmX5 hown hK hP hD hS k_1 hk_1 rfl 15 (by decide) (hts _ kw_1041) (fun _ h9 => h9) rfl (by decide +kernel) rfl rfl (Nat.le_of_ble_eq_true rfl) dX5_makeArray_34 (fun H locs hP hD hS => ?_)
      have hi_8 : invX5 g ws h0 [.ref b_2, .ref r1_1, .ref r2_1, .int c3_1, .ref r4_1, .int c5_1, .ref r6_1, .int c7_1, .ref r8_1, .ref r9_1, .ref r10_1, .int c11_1, .ref b_3, .int c13_1, .int c14_1, .int 4, .long l16_1, .int c17_1, .int c18_1, .int c19_1] := ⟨(some b_2), r1_1, (n1_1), r2_1, (n2_1), (c3_1), r4_1, (n4_1), (c5_1), r6_1, (n6_1), (c7_1), r8_1, (n8_1), r9_1, (n9_1), r10_1, (n10_1), (c11_1), (some b_3), (c13_1), (c14_1), (4), (l16_1), (c17_1), (c18_1), (c19_1), rfl, (fun b h9 => by cases h9; exact o_b_2), (fun b h9 => by cases h9; exact F_b_2), a_r1_1, f3_1, a_r2_1, f5_1, a_r4_1, f7_1, a_r6_1, f9_1, a_r8_1, f11_1, a_r9_1, f13_1, a_r10_1, f15_1, (fun b h9 => by cases h9; exact o_b_3), f17_1, f18_1, f19_1, f20_1, f21_1, f22_1, f23_1, f24_1, f25_1, f26_1, f27_1, f28_1, f29_1, f30_1, f31_1, trivial⟩
      obtain ⟨ws_9, e_ws_9⟩ : ∃ z, z = ws.set k_1 (h0, .inr (5, [.ref b_2, .ref r1_1, .ref r2_1, .int c3_1, .ref r4_1, .int c5_1, .ref r6_1, .int c7_1, .ref r8_1, .ref r9_1, .ref r10_1, .int c11_1, .ref b_3, .int c13_1, .int c14_1, .int 4, .long l16_1, .int c17_1, .int c18_1, .int c19_1])) := ⟨_, rfl⟩
      have hP : va_P (gD g) cl0 ws_9 H := by rw [e_ws_9]; exact hP
      have hD : va_D A ws_9 := by rw [e_ws_9]; exact hD
      have E_10 : gE ws ws_9 := gE_set e_ws_9 hk_1 (cw_o (fi := 15) (v := .int 4) rfl (by decide))
      have hG : Good g ws_9 := Good_set (fi := 15) (v := .int 4) e_ws_9 hk_1 E_10 rfl hV9 hG (ivX5 hi_8)
      have Fr_11 : gF [(5, 15)] [] (some h0) ws ws_9 := gF_put (fi := 15) (v := .int 4) e_ws_9 hk_1 rfl (by decide)
      have pp_12 := Fr_11.pp
      have hkN := gset_self e_ws_9 hk_1
      have hk_1 := hkN
      have o_h0 := E_10.1 _ _ o_h0
      have a_r1_1 := E_10.1 _ _ a_r1_1
      have a_r2_1 := E_10.1 _ _ a_r2_1
      have a_r4_1 := E_10.1 _ _ a_r4_1
      have a_r6_1 := E_10.1 _ _ a_r6_1
      have a_r8_1 := E_10.1 _ _ a_r8_1
      have a_r9_1 := E_10.1 _ _ a_r9_1
      have a_r10_1 := E_10.1 _ _ a_r10_1
      have o_b_2 := E_10.1 _ _ o_b_2
      have F_b_2 := F_b_2.mo E_10
      have o_b_3 := E_10.1 _ _ o_b_3
      refine W_led (fun hLd => ?_)
      have hcl : dc_32_1 + PC ws_9 ≤ PC ws + (0) := (by omega)
      have hsl : ds_32_1 + PS ws_9 ≤ PS ws + (0) := (by omega)
      refine W.widen (k := PC ws + (0)) (n := PS ws + (0)) (by omega) (by omega) ?_
      have tq_13 : frP g ws_9 h0 := frP_mo ((gF.mo (F' := [(5, 15)]) (C' := []) (S' := none) Fr_11 (fun _ h => h) (fun _ h => h) (Or.inl rfl))) (by decide) (by decide) (by decide) (by decide) (by decide) tk0
      have tq_14 : swU ws_9 h0 := swU_mo ((gF.mo (F' := [(5, 15)]) (C' := []) (S' := none) Fr_11 (fun _ h => h) (fun _ h => h) (Or.inl rfl))) (by decide) (by decide) (by decide) (by decide) (by decide) (by decide) (by decide) (by decide) (by decide) (by decide) (by decide) tk1
      have tq_15 : swC ws_9 h0 := swC_mo ((gF.mo (F' := [(5, 15)]) (C' := []) (S' := none) Fr_11 (fun _ h => h) (fun _ h => h) (Or.inl rfl))) (by decide) (by decide) (by decide) (by decide) (by decide) (by decide) (by decide) (by decide) (by decide) tk2
      have tq_16 : arP g ws_9 h0 := arP_mo ((gF.mo (F' := [(5, 15)]) (C' := []) (S' := none) Fr_11 (fun _ h => h) (fun _ h => h) (Or.inl rfl))) (E_10) (by decide) (by decide) tk3
      exact W.vret hx hb hr (fun t9 ht9 hW9 => ⟨⟨ws_9, rfl, ⟨trivial, (gN_of hD hk_1 (j := 0) rfl), (gN_of hD hk_1 (j := 12) rfl), tq_13, tq_14, tq_15, tq_16⟩, ⟨E_10, (gF.mo (F' := [(5, 2), (5, 3), (5, 4), (5, 5), (5, 11), (5, 12), (5, 13), (5, 14), (5, 15), (5, 17), (5, 19)]) (C' := [(5, 2), (5, 4), (5, 9)]) (S' := none) Fr_11 (by decide) (fun _ h => absurd h List.not_mem_nil) (Or.inl rfl)), hG, by rw [ht9]; exact hP, hD, _, _, by rw [ht9]; exact hLd, hcl, hsl⟩⟩, hS.F ht9⟩) hS.2.2 dX5_makeArray_37
    refine lv_icmp_ge (tgt := 32) hx hb dX5_makeArray_17 (by decide) (fun c_17 => ?_) (fun c_17 => ?_)
    · exact J_32 (0) (0) _ _ ls (by have e0 : (0 : Int32).toInt = 0 := (by decide); omega) (by have e0 : (0 : Int32).toInt = 0 := (by decide); omega) hP hD hS (lv_sub hl [0] rfl)
    · refine lv_iload_n hx hb dX5_makeArray_20 rfl (lv_at hl 1 rfl) ?_
      refine lv_sipush (v := 20000) hx hb dX5_makeArray_21 (by decide) ?_
      refine lv_aload_n hx hb dX5_makeArray_24 rfl (lv_at hl 0 rfl) ?_
      refine va_get (D := gD g) (ci := 5) (v := .int c3_1) (C := RX5) (T := TX5) (N := 20) hx hb hts inX5 hown hK hP k_1 hk_1 rfl 3 (by decide) (hts _ kw_1009) (fun _ h9 => h9) rfl dX5_makeArray_25 ?_
      refine lv_isub hx hb dX5_makeArray_28 ?_
      refine lv_topi (fun z_18 ez_18 => ?_)
      refine lv_icmp_le (tgt := 38) hx hb dX5_makeArray_29 (by decide) (fun c_19 => ?_) (fun c_19 => ?_)
      · refine lv_aload_n hx hb dX5_makeArray_38 rfl (lv_at hl 0 rfl) ?_
        refine lv_dup hx hb dX5_makeArray_39 rfl ?_
        refine va_get (D := gD g) (ci := 5) (v := .int c5_1) (C := RX5) (T := TX5) (N := 20) hx hb hts inX5 hown hK hP k_1 hk_1 rfl 5 (by decide) (hts _ kw_1008) (fun _ h9 => h9) rfl dX5_makeArray_40 ?_
        refine lv_iconst (v := 1) hx hb dX5_makeArray_43 (by decide) ?_
        refine lv_iadd hx hb dX5_makeArray_44 ?_
        refine lv_topi (fun z_20 ez_20 => ?_)
        have hV9 : okv ws 5 5 (.int z_20) := okv_i
        refine va_put (D := gD g) (ci := 5) (v := .int z_20) (ty := .int) (C := RX5) (T := TX5) (N := 20) hx hb hts inX5 tyX5 tyX5_ok nmX5 hown hK hP hD hS k_1 hk_1 rfl 5 (by decide) (hts _ kw_1008) (fun _ h9 => h9) rfl (by decide +kernel) rfl rfl (Nat.le_of_ble_eq_true rfl) dX5_makeArray_45 (fun H locs hP hD hS => ?_)
        have f_21 : 0 ≤ z_20.toInt := (by have e1 : (1 : Int32).toInt = 1 := (by decide); have e400 : (400 : Int32).toInt = 400 := (by decide); have q_z_20 := i_addD ez_20; have q_f28_1 := f28_1; have q_f29_1 := f29_1; have q_ar_4 := ar_4; have q_c_17 := i_nle c_17; have q_f7_1 := f7_1; have q_f30_1 := f30_1; have q_f31_1 := f31_1; have g_c5_1 := i_rg c5_1; have g_z_20 := i_rg z_20; omega)
        have f_22 : z_20.toInt ≤ 400 := (by have e1 : (1 : Int32).toInt = 1 := (by decide); have e400 : (400 : Int32).toInt = 400 := (by decide); have q_z_20 := i_addD ez_20; have q_f_21 := f_21; have q_f28_1 := f28_1; have q_f29_1 := f29_1; have q_ar_4 := ar_4; have q_c_17 := i_nle c_17; have q_f7_1 := f7_1; have q_f30_1 := f30_1; have q_f31_1 := f31_1; have g_c5_1 := i_rg c5_1; have g_z_20 := i_rg z_20; omega)
        have hi_23 : invX5 g ws h0 [.ref b_2, .ref r1_1, .ref r2_1, .int c3_1, .ref r4_1, .int z_20, .ref r6_1, .int c7_1, .ref r8_1, .ref r9_1, .ref r10_1, .int c11_1, .ref b_3, .int c13_1, .int c14_1, .int c15_1, .long l16_1, .int c17_1, .int c18_1, .int c19_1] := ⟨(some b_2), r1_1, (n1_1), r2_1, (n2_1), (c3_1), r4_1, (n4_1), (z_20), r6_1, (n6_1), (c7_1), r8_1, (n8_1), r9_1, (n9_1), r10_1, (n10_1), (c11_1), (some b_3), (c13_1), (c14_1), (c15_1), (l16_1), (c17_1), (c18_1), (c19_1), rfl, (fun b h9 => by cases h9; exact o_b_2), (fun b h9 => by cases h9; exact F_b_2), a_r1_1, f3_1, a_r2_1, f5_1, a_r4_1, f7_1, a_r6_1, f9_1, a_r8_1, f11_1, a_r9_1, f13_1, a_r10_1, f15_1, (fun b h9 => by cases h9; exact o_b_3), f17_1, f18_1, f19_1, f20_1, f21_1, f22_1, f23_1, f24_1, f25_1, f26_1, f27_1, f_21, f_22, f30_1, f31_1, trivial⟩
        obtain ⟨ws_24, e_ws_24⟩ : ∃ z, z = ws.set k_1 (h0, .inr (5, [.ref b_2, .ref r1_1, .ref r2_1, .int c3_1, .ref r4_1, .int z_20, .ref r6_1, .int c7_1, .ref r8_1, .ref r9_1, .ref r10_1, .int c11_1, .ref b_3, .int c13_1, .int c14_1, .int c15_1, .long l16_1, .int c17_1, .int c18_1, .int c19_1])) := ⟨_, rfl⟩
        have hP : va_P (gD g) cl0 ws_24 H := by rw [e_ws_24]; exact hP
        have hD : va_D A ws_24 := by rw [e_ws_24]; exact hD
        have E_25 : gE ws ws_24 := gE_set e_ws_24 hk_1 (cw_o (fi := 5) (v := .int z_20) rfl (by decide))
        have hG : Good g ws_24 := Good_set (fi := 5) (v := .int z_20) e_ws_24 hk_1 E_25 rfl hV9 hG (ivX5 hi_23)
        have Fr_26 : gF [(5, 5)] [] (some h0) ws ws_24 := gF_put (fi := 5) (v := .int z_20) e_ws_24 hk_1 rfl (by decide)
        have pp_27 := Fr_26.pp
        have hkN := gset_self e_ws_24 hk_1
        have hk_1 := hkN
        have o_h0 := E_25.1 _ _ o_h0
        have a_r1_1 := E_25.1 _ _ a_r1_1
        have a_r2_1 := E_25.1 _ _ a_r2_1
        have a_r4_1 := E_25.1 _ _ a_r4_1
        have a_r6_1 := E_25.1 _ _ a_r6_1
        have a_r8_1 := E_25.1 _ _ a_r8_1
        have a_r9_1 := E_25.1 _ _ a_r9_1
        have a_r10_1 := E_25.1 _ _ a_r10_1
        have o_b_2 := E_25.1 _ _ o_b_2
        have F_b_2 := F_b_2.mo E_25
        have o_b_3 := E_25.1 _ _ o_b_3
        refine lv_aload_n hx hb dX5_makeArray_48 rfl (lv_at hl 0 rfl) ?_
        refine va_get (D := gD g) (ci := 5) (v := .int z_20) (C := RX5) (T := TX5) (N := 20) hx hb hts inX5 hown hK hP k_1 hk_1 rfl 5 (by decide) (hts _ kw_1008) (fun _ h9 => h9) rfl dX5_makeArray_49 ?_
        refine lv_aload_n hx hb dX5_makeArray_52 rfl (lv_at hl 0 rfl) ?_
        refine va_get (D := gD g) (ci := 5) (v := .ref r4_1) (C := RX5) (T := TX5) (N := 20) hx hb hts inX5 hown hK hP k_1 hk_1 rfl 4 (by decide) (hts _ kw_1010) (fun _ h9 => h9) rfl dX5_makeArray_53 ?_
        obtain ⟨k_28, f_28, hk_28⟩ := gI_of a_r4_1
        obtain ⟨z_29, ez_29⟩ : ∃ z : Int32, Int32.ofNat n4_1 = z := ⟨_, rfl⟩
        refine va_alen (v := z_29) hx hb hK hP k_28 1 hk_28 rfl ez_29 dX5_makeArray_56 ?_
        have J_78 : ∀ (dc_78_2 : Nat) (ds_78_2 : Nat) (ws_30 : va_W) (H : Heap) (locs : List Loc) (ls : Array Slot), gE ws_24 ws_30 → gF [(5, 4)] [] none ws_24 ws_30 → Good g ws_30 → dc_78_2 + PC ws_30 ≤ PC ws + (0) → ds_78_2 + PS ws_30 ≤ PS ws + (0) → gP ws_30 h0 (fun fs => ∀ c : Int32, fs[5]? = some (.int c) → ∀ (rn n : Nat), fs[4]? = some (.ref rn) → gI ws_30 rn g.cI n → c.toInt < n) → va_P (gD g) cl0 ws_30 H → va_D A ws_30 → va_S A s.heap H locs → lv_has ls 3 [(0, .ref h0), (1, .int x1)] → W p l e (headSpec (wt yX5_makeArray cX5_makeArray 3 none) ({ frames := 3, cells := PC ws + (0), slots := PS ws + (0), locals := 67 })).room s m ([.ref h0, .int x1] : List Value).toArray below meth c H locs (dc_78_2) (ds_78_2) (MQ below (va_Qv (fun (u9 : va_W) => (True) ∧ (gN u9 h0 0) ∧ (gN u9 h0 12) ∧ (frP g u9 h0) ∧ (swU u9 h0) ∧ (swC u9 h0) ∧ (arP g u9 h0)) (gQ2 g [(5, 2), (5, 3), (5, 4), (5, 5), (5, 11), (5, 12), (5, 13), (5, 14), (5, 15), (5, 17), (5, 19)] [(5, 2), (5, 4), (5, 9)] none A ws s.heap (0) (0)) A) ([.ref h0, .int x1] : List Value).toArray s (PC ws + (0)) (PS ws + (0)) A) (F0 m 78 ls []) := by
          intro dc_78_2 ds_78_2 ws_30 H locs ls  E_31 Fr_32 hG hc9 hs9 jf_78_k hP hD hS hl
          have aa_33 := a_r1_1
          have aa_34 := a_r2_1
          have aa_35 := a_r4_1
          have aa_36 := a_r6_1
          have aa_37 := a_r8_1
          have aa_38 := a_r9_1
          have aa_39 := a_r10_1
          have o_h0 := E_31.1 _ _ o_h0
          refine lv_aload_n hx hb dX5_makeArray_78 rfl (lv_at hl 0 rfl) ?_
          obtain ⟨fs9, hk_40, hq_40⟩ := ((gF.a (F' := [(5, 4)]) Fr_32 (fun _ h => h))) _ _ _ hk_1
          obtain ⟨v0_40, r1_40, n1_40, r2_40, n2_40, c3_40, r4_40, n4_40, c5_40, r6_40, n6_40, c7_40, r8_40, n8_40, r9_40, n9_40, r10_40, n10_40, c11_40, v12_40, c13_40, c14_40, c15_40, l16_40, c17_40, c18_40, c19_40, rfl, o_v0_40, F_v0_40, a_r1_40, f3_40, a_r2_40, f5_40, a_r4_40, f7_40, a_r6_40, f9_40, a_r8_40, f11_40, a_r9_40, f13_40, a_r10_40, f15_40, o_v12_40, f17_40, f18_40, f19_40, f20_40, f21_40, f22_40, f23_40, f24_40, f25_40, f26_40, f27_40, f28_40, f29_40, f30_40, f31_40, -⟩ := (hG.1 _ _ _ _ hk_40).hX5 rfl
          have hn9 := fe_qr (hq_40 0 (by decide))
          subst hn9
          have o_b_2 := o_v0_40 _ rfl
          have F_b_2 := F_v0_40 _ rfl
          obtain rfl := fe_r (hq_40 2 (by decide))
          have hn9 := gI_n hD ((E_31).1 _ _ aa_34) a_r2_40
          subst hn9
          have a_r2_1 := a_r2_40
          obtain rfl := fe_i (hq_40 3 (by decide))
          obtain rfl := fe_i (hq_40 5 (by decide))
          have hn9 := fe_qr (hq_40 12 (by decide))
          subst hn9
          have o_b_3 := o_v12_40 _ rfl
          obtain rfl := fe_i (hq_40 13 (by decide))
          have kq_41 := jf_78_k _ _ _ hk_40 _ rfl _ _ rfl a_r4_40
          refine va_get (D := gD g) (ci := 5) (v := .int c3_1) (C := RX5) (T := TX5) (N := 20) hx hb hts inX5 hown hK hP k_1 hk_40 rfl 3 (by decide) (hts _ kw_1009) (fun _ h9 => h9) rfl dX5_makeArray_79 ?_
          refine lv_iload_n hx hb dX5_makeArray_82 rfl (lv_at hl 1 rfl) ?_
          refine lv_iadd hx hb dX5_makeArray_83 ?_
          refine lv_topi (fun z_42 ez_42 => ?_)
          refine lv_aload_n hx hb dX5_makeArray_84 rfl (lv_at hl 0 rfl) ?_
          refine va_get (D := gD g) (ci := 5) (v := .ref r2_1) (C := RX5) (T := TX5) (N := 20) hx hb hts inX5 hown hK hP k_1 hk_40 rfl 2 (by decide) (hts _ kw_1069) (fun _ h9 => h9) rfl dX5_makeArray_85 ?_
          obtain ⟨k_43, f_43, hk_43⟩ := gI_of a_r2_1
          obtain ⟨z_44, ez_44⟩ : ∃ z : Int32, Int32.ofNat n2_1 = z := ⟨_, rfl⟩
          refine va_alen (v := z_44) hx hb hK hP k_43 1 hk_43 rfl ez_44 dX5_makeArray_88 ?_
          have J_117 : ∀ (dc_117_3 : Nat) (ds_117_3 : Nat) (ws_45 : va_W) (H : Heap) (locs : List Loc) (ls : Array Slot), gE ws_30 ws_45 → gF [(5, 2)] [] none ws_30 ws_45 → Good g ws_45 → dc_117_3 + PC ws_45 ≤ PC ws + (0) → ds_117_3 + PS ws_45 ≤ PS ws + (0) → va_P (gD g) cl0 ws_45 H → va_D A ws_45 → va_S A s.heap H locs → lv_has ls 3 [(0, .ref h0), (1, .int x1)] → W p l e (headSpec (wt yX5_makeArray cX5_makeArray 3 none) ({ frames := 3, cells := PC ws + (0), slots := PS ws + (0), locals := 67 })).room s m ([.ref h0, .int x1] : List Value).toArray below meth c H locs (dc_117_3) (ds_117_3) (MQ below (va_Qv (fun (u9 : va_W) => (True) ∧ (gN u9 h0 0) ∧ (gN u9 h0 12) ∧ (frP g u9 h0) ∧ (swU u9 h0) ∧ (swC u9 h0) ∧ (arP g u9 h0)) (gQ2 g [(5, 2), (5, 3), (5, 4), (5, 5), (5, 11), (5, 12), (5, 13), (5, 14), (5, 15), (5, 17), (5, 19)] [(5, 2), (5, 4), (5, 9)] none A ws s.heap (0) (0)) A) ([.ref h0, .int x1] : List Value).toArray s (PC ws + (0)) (PS ws + (0)) A) (F0 m 117 ls []) := by
            intro dc_117_3 ds_117_3 ws_45 H locs ls  E_46 Fr_47 hG hc9 hs9 hP hD hS hl
            have aa_48 := a_r1_40
            have aa_49 := a_r2_1
            have aa_50 := a_r4_40
            have aa_51 := a_r6_40
            have aa_52 := a_r8_40
            have aa_53 := a_r9_40
            have aa_54 := a_r10_40
            have o_h0 := E_46.1 _ _ o_h0
            obtain ⟨fs9, hk_55, hq_55⟩ := ((gF.a (F' := [(5, 2)]) Fr_47 (fun _ h => h))) _ _ _ hk_40
            obtain ⟨v0_55, r1_55, n1_55, r2_55, n2_55, c3_55, r4_55, n4_55, c5_55, r6_55, n6_55, c7_55, r8_55, n8_55, r9_55, n9_55, r10_55, n10_55, c11_55, v12_55, c13_55, c14_55, c15_55, l16_55, c17_55, c18_55, c19_55, rfl, o_v0_55, F_v0_55, a_r1_55, f3_55, a_r2_55, f5_55, a_r4_55, f7_55, a_r6_55, f9_55, a_r8_55, f11_55, a_r9_55, f13_55, a_r10_55, f15_55, o_v12_55, f17_55, f18_55, f19_55, f20_55, f21_55, f22_55, f23_55, f24_55, f25_55, f26_55, f27_55, f28_55, f29_55, f30_55, f31_55, -⟩ := (hG.1 _ _ _ _ hk_55).hX5 rfl
            have hn9 := fe_qr (hq_55 0 (by decide))
            subst hn9
            have o_b_2 := o_v0_55 _ rfl
            have F_b_2 := F_v0_55 _ rfl
            obtain rfl := fe_i (hq_55 3 (by decide))
            obtain rfl := fe_r (hq_55 4 (by decide))
            have hn9 := gI_n hD ((E_46).1 _ _ aa_50) a_r4_55
            subst hn9
            have a_r4_40 := a_r4_55
            obtain rfl := fe_i (hq_55 5 (by decide))
            have hn9 := fe_qr (hq_55 12 (by decide))
            subst hn9
            have o_b_3 := o_v12_55 _ rfl
            obtain rfl := fe_i (hq_55 13 (by decide))
            have tq_56 : arP g ws_45 h0 := ⟨_, _, _, _, _, hk_55, rfl, rfl, a_r4_40, (by have e1 : (1 : Int32).toInt = 1 := (by decide); have e400 : (400 : Int32).toInt = 400 := (by decide); have q_z_20 := i_addD ez_20; have q_f_21 := f_21; have q_f_22 := f_22; have q_f7_40 := f7_40; have q_f30_40 := f30_40; have q_f31_40 := f31_40; have q_kq_41 := kq_41; have q_f28_1 := f28_1; have q_f29_1 := f29_1; have q_ar_4 := ar_4; have q_c_17 := i_nle c_17; have q_f7_1 := f7_1; have q_f30_1 := f30_1; have q_f31_1 := f31_1; have q_z_29 := i_len ez_29 f7_1; have g_c5_1 := i_rg c5_1; have g_z_20 := i_rg z_20; have g_z_29 := i_rg z_29; omega)⟩
            refine lv_aload_n hx hb dX5_makeArray_117 rfl (lv_at hl 0 rfl) ?_
            refine va_get (D := gD g) (ci := 5) (v := .ref r4_40) (C := RX5) (T := TX5) (N := 20) hx hb hts inX5 hown hK hP k_1 hk_55 rfl 4 (by decide) (hts _ kw_1010) (fun _ h9 => h9) rfl dX5_makeArray_118 ?_
            refine lv_aload_n hx hb dX5_makeArray_121 rfl (lv_at hl 0 rfl) ?_
            refine va_get (D := gD g) (ci := 5) (v := .int z_20) (C := RX5) (T := TX5) (N := 20) hx hb hts inX5 hown hK hP k_1 hk_55 rfl 5 (by decide) (hts _ kw_1008) (fun _ h9 => h9) rfl dX5_makeArray_122 ?_
            refine lv_aload_n hx hb dX5_makeArray_125 rfl (lv_at hl 0 rfl) ?_
            refine va_get (D := gD g) (ci := 5) (v := .int c3_1) (C := RX5) (T := TX5) (N := 20) hx hb hts inX5 hown hK hP k_1 hk_55 rfl 3 (by decide) (hts _ kw_1009) (fun _ h9 => h9) rfl dX5_makeArray_126 ?_
            obtain ⟨k_57, f_57, hk_57⟩ := gI_of a_r4_40
            have hC9 : hol ws_45 r4_40 [(5, 4)] := (hol_u hG.u hk_55 (j := 4) rfl a_r4_40 (by decide))
            have hS9 : holS ws_45 r4_40 none := holS_n
            refine va_iast hx hb hK hP hD hS k_57 1 hk_57 rfl (i_in2 (by have e1 : (1 : Int32).toInt = 1 := (by decide); have e400 : (400 : Int32).toInt = 400 := (by decide); have q_z_20 := i_addD ez_20; have q_f_21 := f_21; have q_f_22 := f_22; have q_f7_40 := f7_40; have q_f30_40 := f30_40; have q_f31_40 := f31_40; have q_kq_41 := kq_41; have q_f28_1 := f28_1; have q_f29_1 := f29_1; have q_ar_4 := ar_4; have q_c_17 := i_nle c_17; have q_f7_1 := f7_1; have q_f30_1 := f30_1; have q_f31_1 := f31_1; have q_z_29 := i_len ez_29 f7_1; have g_c5_1 := i_rg c5_1; have g_z_20 := i_rg z_20; have g_z_29 := i_rg z_29; omega)) dX5_makeArray_129 (fun H locs hP hD hS => ?_)
            obtain ⟨ws_58, e_ws_58⟩ : ∃ z, z = ws_45.set k_57 (r4_40, .inl (g.cI, n4_40, .inl (upd f_57 (z_20 : Int32).toNatClampNeg c3_1))) := ⟨_, rfl⟩
            have hP : va_P (gD g) cl0 ws_58 H := by rw [e_ws_58]; exact hP
            have hD : va_D A ws_58 := by rw [e_ws_58]; exact hD
            have E_59 : gE ws_45 ws_58 := gE_ari e_ws_58 hk_57
            have hG : Good g ws_58 := Good_arI e_ws_58 hk_57 hG
            have Fr_60 : gF [] [(5, 4)] none ws_45 ws_58 := gF_ar e_ws_58 hk_57 rfl hC9 hS9
            have pp_61 := Fr_60.pp
            have hk_55 := gset_arO e_ws_58 hk_57 hk_55
            have o_h0 := E_59.1 _ _ o_h0
            have a_r1_55 := E_59.1 _ _ a_r1_55
            have a_r2_55 := E_59.1 _ _ a_r2_55
            have a_r6_55 := E_59.1 _ _ a_r6_55
            have a_r8_55 := E_59.1 _ _ a_r8_55
            have a_r9_55 := E_59.1 _ _ a_r9_55
            have a_r10_55 := E_59.1 _ _ a_r10_55
            have o_b_2 := E_59.1 _ _ o_b_2
            have F_b_2 := F_b_2.mo E_59
            have a_r4_40 := E_59.1 _ _ a_r4_40
            have o_b_3 := E_59.1 _ _ o_b_3
            refine lv_aload_n hx hb dX5_makeArray_130 rfl (lv_at hl 0 rfl) ?_
            refine va_get (D := gD g) (ci := 5) (v := .int c3_1) (C := RX5) (T := TX5) (N := 20) hx hb hts inX5 hown hK hP k_1 hk_55 rfl 3 (by decide) (hts _ kw_1009) (fun _ h9 => h9) rfl dX5_makeArray_131 ?_
            refine lv_istore_n (lv' := [(2, .int c3_1), (0, .ref h0), (1, .int x1)]) hx hb dX5_makeArray_134 rfl hl (by decide) rfl (fun ls hl => ?_)
            have J_135 : ∀ (n9 : Nat) (v2_62 : Int32) (dc_135_4 : Nat) (ds_135_4 : Nat) (ws_64 : va_W) (H : Heap) (locs : List Loc) (ls : Array Slot), (2147483647 - v2_62.toInt).toNat = n9 → 0 ≤ v2_62.toInt → gE ws_58 ws_64 → gF [] [(5, 2)] none ws_58 ws_64 → Good g ws_64 → dc_135_4 + PC ws_64 ≤ PC ws + (0) → ds_135_4 + PS ws_64 ≤ PS ws + (0) → va_P (gD g) cl0 ws_64 H → va_D A ws_64 → va_S A s.heap H locs → lv_has ls 3 [(0, .ref h0), (1, .int x1), (2, .int v2_62)] → W p l e (headSpec (wt yX5_makeArray cX5_makeArray 3 none) ({ frames := 3, cells := PC ws + (0), slots := PS ws + (0), locals := 67 })).room s m ([.ref h0, .int x1] : List Value).toArray below meth c H locs (dc_135_4) (ds_135_4) (MQ below (va_Qv (fun (u9 : va_W) => (True) ∧ (gN u9 h0 0) ∧ (gN u9 h0 12) ∧ (frP g u9 h0) ∧ (swU u9 h0) ∧ (swC u9 h0) ∧ (arP g u9 h0)) (gQ2 g [(5, 2), (5, 3), (5, 4), (5, 5), (5, 11), (5, 12), (5, 13), (5, 14), (5, 15), (5, 17), (5, 19)] [(5, 2), (5, 4), (5, 9)] none A ws s.heap (0) (0)) A) ([.ref h0, .int x1] : List Value).toArray s (PC ws + (0)) (PS ws + (0)) A) (F0 m 135 ls []) := by
              intro n9
              induction n9 using Nat.strongRecOn with
              | ind n9 ih_135 =>
                intro v2_62 dc_135_4 ds_135_4 ws_64 H locs ls hm9 iv_63 E_65 Fr_66 hG hc9 hs9 hP hD hS hl
                subst hm9
                have aa_67 := a_r1_55
                have aa_68 := a_r2_55
                have aa_69 := a_r4_40
                have aa_70 := a_r6_55
                have aa_71 := a_r8_55
                have aa_72 := a_r9_55
                have aa_73 := a_r10_55
                have o_h0 := E_65.1 _ _ o_h0
                refine lv_iload_n hx hb dX5_makeArray_135 rfl (lv_at hl 2 rfl) ?_
                refine lv_aload_n hx hb dX5_makeArray_136 rfl (lv_at hl 0 rfl) ?_
                obtain ⟨fs9, hk_74, hq_74⟩ := ((gF.a (F' := []) Fr_66 (fun _ h => h))) _ _ _ hk_55
                obtain ⟨v0_74, r1_74, n1_74, r2_74, n2_74, c3_74, r4_74, n4_74, c5_74, r6_74, n6_74, c7_74, r8_74, n8_74, r9_74, n9_74, r10_74, n10_74, c11_74, v12_74, c13_74, c14_74, c15_74, l16_74, c17_74, c18_74, c19_74, rfl, o_v0_74, F_v0_74, a_r1_74, f3_74, a_r2_74, f5_74, a_r4_74, f7_74, a_r6_74, f9_74, a_r8_74, f11_74, a_r9_74, f13_74, a_r10_74, f15_74, o_v12_74, f17_74, f18_74, f19_74, f20_74, f21_74, f22_74, f23_74, f24_74, f25_74, f26_74, f27_74, f28_74, f29_74, f30_74, f31_74, -⟩ := (hG.1 _ _ _ _ hk_74).hX5 rfl
                have hn9 := fe_qr (hq_74 0 (by decide))
                subst hn9
                have o_b_2 := o_v0_74 _ rfl
                have F_b_2 := F_v0_74 _ rfl
                obtain rfl := fe_r (hq_74 2 (by decide))
                have hn9 := gI_n hD ((E_65).1 _ _ aa_68) a_r2_74
                subst hn9
                have a_r2_55 := a_r2_74
                obtain rfl := fe_i (hq_74 3 (by decide))
                obtain rfl := fe_r (hq_74 4 (by decide))
                have hn9 := gI_n hD ((E_65).1 _ _ aa_69) a_r4_74
                subst hn9
                have a_r4_40 := a_r4_74
                obtain rfl := fe_i (hq_74 5 (by decide))
                have hn9 := fe_qr (hq_74 12 (by decide))
                subst hn9
                have o_b_3 := o_v12_74 _ rfl
                obtain rfl := fe_i (hq_74 13 (by decide))
                refine va_get (D := gD g) (ci := 5) (v := .int c3_1) (C := RX5) (T := TX5) (N := 20) hx hb hts inX5 hown hK hP k_1 hk_74 rfl 3 (by decide) (hts _ kw_1009) (fun _ h9 => h9) rfl dX5_makeArray_137 ?_
                refine lv_iload_n hx hb dX5_makeArray_140 rfl (lv_at hl 1 rfl) ?_
                refine lv_iadd hx hb dX5_makeArray_141 ?_
                refine lv_topi (fun z_75 ez_75 => ?_)
                have J_167 : ∀ (dc_167_5 : Nat) (ds_167_5 : Nat) (H : Heap) (locs : List Loc) (ls : Array Slot), dc_167_5 + PC ws_64 ≤ PC ws + (0) → ds_167_5 + PS ws_64 ≤ PS ws + (0) → va_P (gD g) cl0 ws_64 H → va_D A ws_64 → va_S A s.heap H locs → lv_has ls 3 [(0, .ref h0), (1, .int x1)] → W p l e (headSpec (wt yX5_makeArray cX5_makeArray 3 none) ({ frames := 3, cells := PC ws + (0), slots := PS ws + (0), locals := 67 })).room s m ([.ref h0, .int x1] : List Value).toArray below meth c H locs (dc_167_5) (ds_167_5) (MQ below (va_Qv (fun (u9 : va_W) => (True) ∧ (gN u9 h0 0) ∧ (gN u9 h0 12) ∧ (frP g u9 h0) ∧ (swU u9 h0) ∧ (swC u9 h0) ∧ (arP g u9 h0)) (gQ2 g [(5, 2), (5, 3), (5, 4), (5, 5), (5, 11), (5, 12), (5, 13), (5, 14), (5, 15), (5, 17), (5, 19)] [(5, 2), (5, 4), (5, 9)] none A ws s.heap (0) (0)) A) ([.ref h0, .int x1] : List Value).toArray s (PC ws + (0)) (PS ws + (0)) A) (F0 m 167 ls []) := by
                  intro dc_167_5 ds_167_5 H locs ls  hc9 hs9 hP hD hS hl
                  refine lv_aload_n hx hb dX5_makeArray_167 rfl (lv_at hl 0 rfl) ?_
                  refine lv_dup hx hb dX5_makeArray_168 rfl ?_
                  refine va_get (D := gD g) (ci := 5) (v := .int c3_1) (C := RX5) (T := TX5) (N := 20) hx hb hts inX5 hown hK hP k_1 hk_74 rfl 3 (by decide) (hts _ kw_1009) (fun _ h9 => h9) rfl dX5_makeArray_169 ?_
                  refine lv_iload_n hx hb dX5_makeArray_172 rfl (lv_at hl 1 rfl) ?_
                  refine lv_iadd hx hb dX5_makeArray_173 ?_
                  refine lv_topi (fun z_78 ez_78 => ?_)
                  have hV9 : okv ws_64 5 3 (.int z_78) := okv_i
                  refine va_put (D := gD g) (ci := 5) (v := .int z_78) (ty := .int) (C := RX5) (T := TX5) (N := 20) hx hb hts inX5 tyX5 tyX5_ok nmX5 hown hK hP hD hS k_1 hk_74 rfl 3 (by decide) (hts _ kw_1009) (fun _ h9 => h9) rfl (by decide +kernel) rfl rfl (Nat.le_of_ble_eq_true rfl) dX5_makeArray_174 (fun H locs hP hD hS => ?_)
                  have f_79 : 0 ≤ z_78.toInt := (by have e0 : (0 : Int32).toInt = 0 := (by decide); have e20000 : (20000 : Int32).toInt = 20000 := (by decide); have q_z_78 := i_addD ez_78; have q_f25_1 := f25_1; have q_f26_1 := f26_1; have q_c_5 := i_le c_5; have q_z_18 := i_subD ez_18; have q_c_19 := i_le c_19; have q_z_42 := i_addD ez_42; have q_z_75 := i_addD ez_75; have g_c3_1 := i_rg c3_1; have g_x1 := i_rg x1; have g_z_18 := i_rg z_18; have g_z_42 := i_rg z_42; have g_z_75 := i_rg z_75; have g_z_78 := i_rg z_78; omega)
                  have f_80 : z_78.toInt ≤ 20000 := (by have e0 : (0 : Int32).toInt = 0 := (by decide); have e20000 : (20000 : Int32).toInt = 20000 := (by decide); have q_z_78 := i_addD ez_78; have q_f_79 := f_79; have q_f25_1 := f25_1; have q_f26_1 := f26_1; have q_c_5 := i_le c_5; have q_z_18 := i_subD ez_18; have q_c_19 := i_le c_19; have q_z_42 := i_addD ez_42; have q_z_75 := i_addD ez_75; have g_c3_1 := i_rg c3_1; have g_x1 := i_rg x1; have g_z_18 := i_rg z_18; have g_z_42 := i_rg z_42; have g_z_75 := i_rg z_75; have g_z_78 := i_rg z_78; omega)
                  have hi_81 : invX5 g ws_64 h0 [.ref b_2, .ref r1_74, .ref r2_55, .int z_78, .ref r4_40, .int z_20, .ref r6_74, .int c7_74, .ref r8_74, .ref r9_74, .ref r10_74, .int c11_74, .ref b_3, .int c13_1, .int c14_74, .int c15_74, .long l16_74, .int c17_74, .int c18_74, .int c19_74] := ⟨(some b_2), r1_74, (n1_74), r2_55, (n2_55), (z_78), r4_40, (n4_40), (z_20), r6_74, (n6_74), (c7_74), r8_74, (n8_74), r9_74, (n9_74), r10_74, (n10_74), (c11_74), (some b_3), (c13_1), (c14_74), (c15_74), (l16_74), (c17_74), (c18_74), (c19_74), rfl, (fun b h9 => by cases h9; exact o_b_2), (fun b h9 => by cases h9; exact F_b_2), a_r1_74, f3_74, a_r2_55, f5_74, a_r4_40, f7_74, a_r6_74, f9_74, a_r8_74, f11_74, a_r9_74, f13_74, a_r10_74, f15_74, (fun b h9 => by cases h9; exact o_b_3), f17_74, f18_74, f19_74, f20_74, f21_74, f22_74, f23_74, f24_74, f_79, f_80, f27_74, f28_74, f29_74, f30_74, f31_74, trivial⟩
                  obtain ⟨ws_82, e_ws_82⟩ : ∃ z, z = ws_64.set k_1 (h0, .inr (5, [.ref b_2, .ref r1_74, .ref r2_55, .int z_78, .ref r4_40, .int z_20, .ref r6_74, .int c7_74, .ref r8_74, .ref r9_74, .ref r10_74, .int c11_74, .ref b_3, .int c13_1, .int c14_74, .int c15_74, .long l16_74, .int c17_74, .int c18_74, .int c19_74])) := ⟨_, rfl⟩
                  have hP : va_P (gD g) cl0 ws_82 H := by rw [e_ws_82]; exact hP
                  have hD : va_D A ws_82 := by rw [e_ws_82]; exact hD
                  have E_83 : gE ws_64 ws_82 := gE_set e_ws_82 hk_74 (cw_o (fi := 3) (v := .int z_78) rfl (by decide))
                  have hG : Good g ws_82 := Good_set (fi := 3) (v := .int z_78) e_ws_82 hk_74 E_83 rfl hV9 hG (ivX5 hi_81)
                  have Fr_84 : gF [(5, 3)] [] (some h0) ws_64 ws_82 := gF_put (fi := 3) (v := .int z_78) e_ws_82 hk_74 rfl (by decide)
                  have pp_85 := Fr_84.pp
                  have hkN := gset_self e_ws_82 hk_74
                  have hk_74 := hkN
                  have o_h0 := E_83.1 _ _ o_h0
                  have a_r1_74 := E_83.1 _ _ a_r1_74
                  have a_r6_74 := E_83.1 _ _ a_r6_74
                  have a_r8_74 := E_83.1 _ _ a_r8_74
                  have a_r9_74 := E_83.1 _ _ a_r9_74
                  have a_r10_74 := E_83.1 _ _ a_r10_74
                  have o_b_2 := E_83.1 _ _ o_b_2
                  have F_b_2 := F_b_2.mo E_83
                  have a_r2_55 := E_83.1 _ _ a_r2_55
                  have a_r4_40 := E_83.1 _ _ a_r4_40
                  have o_b_3 := E_83.1 _ _ o_b_3
                  refine lv_aload_n hx hb dX5_makeArray_177 rfl (lv_at hl 0 rfl) ?_
                  refine lv_aload_n hx hb dX5_makeArray_178 rfl (lv_at hl 0 rfl) ?_
                  refine va_get (D := gD g) (ci := 5) (v := .int z_20) (C := RX5) (T := TX5) (N := 20) hx hb hts inX5 hown hK hP k_1 hk_74 rfl 5 (by decide) (hts _ kw_1008) (fun _ h9 => h9) rfl dX5_makeArray_179 ?_
                  obtain ⟨z_86, ez_86⟩ : ∃ y : Int64, (z_20 : Int32).toInt64 = y := ⟨_, rfl⟩
                  refine lv_i2l (v := z_86) hx hb dX5_makeArray_182 ez_86 ?_
                  have hFc := gfree hD hS hA
                  refine va_callv (va_runV (As := [.long z_86]) (rest := []) ⟨hx, hb, hml, hown, hts⟩ (m_X5_push l g H.size ws_82 h0 (z_86) hG o_h0) (cwV 1 hts (gd_V kw_1099 kw_1130 kw_1131 kw_398 kw_1129) rfl rfl rfl (by decide +kernel) ⟨Nat.le_of_ble_eq_true rfl, Nat.le_of_ble_eq_true rfl⟩) ⟨gblind, va_recv hK hP (ci := 5) (q0 := k_1) rfl hk_74, fun U hU hW9 => gmk hU hW9 hP hK hD hex hE hS hFc⟩ rfl rfl hl.1 rfl (lv_room (Nat.le_of_ble_eq_true rfl)) dX5_makeArray_183 ⟨(show dc_167_5 + 0 ≤ PC ws + (0) from (by omega)), (show ds_167_5 + 0 ≤ PS ws + (0) from (by omega))⟩) hS (fun q _ h => hFc q h) hFc (fun  ws_87 t9 H1 locs ht9 hvm9 hw9 hB9 hz9 hk9 hS => ?_)
                  obtain ⟨E_88, Fr_89, hG, hP1, hD1⟩ := hB9
                  have hP : va_P (gD g) cl0 ws_87 H1 := by rw [← ht9]; exact hP1
                  have hD : va_D A ws_87 := hD1.weaken (fun _ _ _ h => hFc _ h)
                  clear hP1 hD1 hz9 hk9 hvm9 ht9 hw9
                  generalize H1 = H at hP hS ⊢
                  have aa_92 := a_r1_74
                  have aa_93 := a_r2_55
                  have aa_94 := a_r4_40
                  have aa_95 := a_r6_74
                  have aa_96 := a_r8_74
                  have aa_97 := a_r9_74
                  have aa_98 := a_r10_74
                  have o_h0 := E_88.1 _ _ o_h0
                  have pp_99 := Fr_89.pp
                  refine lv_aload_n hx hb dX5_makeArray_186 rfl (lv_at hl 0 rfl) ?_
                  refine lv_dup hx hb dX5_makeArray_187 rfl ?_
                  obtain ⟨fs9, hk_100, hq_100⟩ := ((gF.a (F' := [(5, 14), (5, 19)]) Fr_89 (fun _ h => h))) _ _ _ hk_74
                  obtain ⟨v0_100, r1_100, n1_100, r2_100, n2_100, c3_100, r4_100, n4_100, c5_100, r6_100, n6_100, c7_100, r8_100, n8_100, r9_100, n9_100, r10_100, n10_100, c11_100, v12_100, c13_100, c14_100, c15_100, l16_100, c17_100, c18_100, c19_100, rfl, o_v0_100, F_v0_100, a_r1_100, f3_100, a_r2_100, f5_100, a_r4_100, f7_100, a_r6_100, f9_100, a_r8_100, f11_100, a_r9_100, f13_100, a_r10_100, f15_100, o_v12_100, f17_100, f18_100, f19_100, f20_100, f21_100, f22_100, f23_100, f24_100, f25_100, f26_100, f27_100, f28_100, f29_100, f30_100, f31_100, -⟩ := (hG.1 _ _ _ _ hk_100).hX5 rfl
                  have hn9 := fe_qr (hq_100 0 (by decide))
                  subst hn9
                  have o_b_2 := o_v0_100 _ rfl
                  have F_b_2 := F_v0_100 _ rfl
                  obtain rfl := fe_r (hq_100 2 (by decide))
                  have hn9 := gI_n hD ((E_88).1 _ _ aa_93) a_r2_100
                  subst hn9
                  have a_r2_55 := a_r2_100
                  obtain rfl := fe_i (hq_100 3 (by decide))
                  obtain rfl := fe_r (hq_100 4 (by decide))
                  have hn9 := gI_n hD ((E_88).1 _ _ aa_94) a_r4_100
                  subst hn9
                  have a_r4_40 := a_r4_100
                  obtain rfl := fe_i (hq_100 5 (by decide))
                  have hn9 := fe_qr (hq_100 12 (by decide))
                  subst hn9
                  have o_b_3 := o_v12_100 _ rfl
                  obtain rfl := fe_i (hq_100 13 (by decide))
                  refine va_get (D := gD g) (ci := 5) (v := .int c13_1) (C := RX5) (T := TX5) (N := 20) hx hb hts inX5 hown hK hP k_1 hk_100 rfl 13 (by decide) (hts _ kw_1021) (fun _ h9 => h9) rfl dX5_makeArray_188 ?_
                  refine lv_iconst (v := 1) hx hb dX5_makeArray_191 (by decide) ?_
                  refine lv_iadd hx hb dX5_makeArray_192 ?_
                  refine lv_topi (fun z_101 ez_101 => ?_)
                  have hV9 : okv ws_87 5 13 (.int z_101) := okv_i
                  refine va_put (D := gD g) (ci := 5) (v := .int z_101) (ty := .int) (C := RX5) (T := TX5) (N := 20) hx hb hts inX5 tyX5 tyX5_ok nmX5 hown hK hP hD hS k_1 hk_100 rfl 13 (by decide) (hts _ kw_1021) (fun _ h9 => h9) rfl (by decide +kernel) rfl rfl (Nat.le_of_ble_eq_true rfl) dX5_makeArray_193 (fun H locs hP hD hS => ?_)
                  have hi_102 : invX5 g ws_87 h0 [.ref b_2, .ref r1_100, .ref r2_55, .int z_78, .ref r4_40, .int z_20, .ref r6_100, .int c7_100, .ref r8_100, .ref r9_100, .ref r10_100, .int c11_100, .ref b_3, .int z_101, .int c14_100, .int c15_100, .long l16_100, .int c17_100, .int c18_100, .int c19_100] := ⟨(some b_2), r1_100, (n1_100), r2_55, (n2_55), (z_78), r4_40, (n4_40), (z_20), r6_100, (n6_100), (c7_100), r8_100, (n8_100), r9_100, (n9_100), r10_100, (n10_100), (c11_100), (some b_3), (z_101), (c14_100), (c15_100), (l16_100), (c17_100), (c18_100), (c19_100), rfl, (fun b h9 => by cases h9; exact o_b_2), (fun b h9 => by cases h9; exact F_b_2), a_r1_100, f3_100, a_r2_55, f5_100, a_r4_40, f7_100, a_r6_100, f9_100, a_r8_100, f11_100, a_r9_100, f13_100, a_r10_100, f15_100, (fun b h9 => by cases h9; exact o_b_3), f17_100, f18_100, f19_100, f20_100, f21_100, f22_100, f23_100, f24_100, f25_100, f26_100, f27_100, f28_100, f29_100, f30_100, f31_100, trivial⟩
                  obtain ⟨ws_103, e_ws_103⟩ : ∃ z, z = ws_87.set k_1 (h0, .inr (5, [.ref b_2, .ref r1_100, .ref r2_55, .int z_78, .ref r4_40, .int z_20, .ref r6_100, .int c7_100, .ref r8_100, .ref r9_100, .ref r10_100, .int c11_100, .ref b_3, .int z_101, .int c14_100, .int c15_100, .long l16_100, .int c17_100, .int c18_100, .int c19_100])) := ⟨_, rfl⟩
                  have hP : va_P (gD g) cl0 ws_103 H := by rw [e_ws_103]; exact hP
                  have hD : va_D A ws_103 := by rw [e_ws_103]; exact hD
                  have E_104 : gE ws_87 ws_103 := gE_set e_ws_103 hk_100 (cw_o (fi := 13) (v := .int z_101) rfl (by decide))
                  have hG : Good g ws_103 := Good_set (fi := 13) (v := .int z_101) e_ws_103 hk_100 E_104 rfl hV9 hG (ivX5 hi_102)
                  have Fr_105 : gF [(5, 13)] [] (some h0) ws_87 ws_103 := gF_put (fi := 13) (v := .int z_101) e_ws_103 hk_100 rfl (by decide)
                  have pp_106 := Fr_105.pp
                  have hkN := gset_self e_ws_103 hk_100
                  have hk_100 := hkN
                  have o_h0 := E_104.1 _ _ o_h0
                  have a_r1_100 := E_104.1 _ _ a_r1_100
                  have a_r6_100 := E_104.1 _ _ a_r6_100
                  have a_r8_100 := E_104.1 _ _ a_r8_100
                  have a_r9_100 := E_104.1 _ _ a_r9_100
                  have a_r10_100 := E_104.1 _ _ a_r10_100
                  have o_b_2 := E_104.1 _ _ o_b_2
                  have F_b_2 := F_b_2.mo E_104
                  have a_r2_55 := E_104.1 _ _ a_r2_55
                  have a_r4_40 := E_104.1 _ _ a_r4_40
                  have o_b_3 := E_104.1 _ _ o_b_3
                  refine W_led (fun hLd => ?_)
                  have hcl : dc_167_5 + PC ws_103 ≤ PC ws + (0) := (by omega)
                  have hsl : ds_167_5 + PS ws_103 ≤ PS ws + (0) := (by omega)
                  refine W.widen (k := PC ws + (0)) (n := PS ws + (0)) (by omega) (by omega) ?_
                  have tq_107 : frP g ws_103 h0 := frP_mo ((gF.tr (gF.mo (F' := [(5, 2), (5, 3), (5, 4), (5, 5), (5, 13), (5, 14), (5, 19)]) (C' := [(5, 2), (5, 4), (5, 9)]) (S' := none) Fr_26 (by decide) (fun _ h => absurd h List.not_mem_nil) (Or.inl rfl)) (gF.tr (gF.mo (F' := [(5, 2), (5, 3), (5, 4), (5, 5), (5, 13), (5, 14), (5, 19)]) (C' := [(5, 2), (5, 4), (5, 9)]) (S' := none) Fr_32 (by decide) (fun _ h => absurd h List.not_mem_nil) (Or.inr rfl)) (gF.tr (gF.mo (F' := [(5, 2), (5, 3), (5, 4), (5, 5), (5, 13), (5, 14), (5, 19)]) (C' := [(5, 2), (5, 4), (5, 9)]) (S' := none) Fr_47 (by decide) (fun _ h => absurd h List.not_mem_nil) (Or.inr rfl)) (gF.tr (gF.mo (F' := [(5, 2), (5, 3), (5, 4), (5, 5), (5, 13), (5, 14), (5, 19)]) (C' := [(5, 2), (5, 4), (5, 9)]) (S' := none) Fr_60 (fun _ h => absurd h List.not_mem_nil) (by decide) (Or.inr rfl)) (gF.tr (gF.mo (F' := [(5, 2), (5, 3), (5, 4), (5, 5), (5, 13), (5, 14), (5, 19)]) (C' := [(5, 2), (5, 4), (5, 9)]) (S' := none) Fr_66 (fun _ h => absurd h List.not_mem_nil) (by decide) (Or.inr rfl)) (gF.tr (gF.mo (F' := [(5, 2), (5, 3), (5, 4), (5, 5), (5, 13), (5, 14), (5, 19)]) (C' := [(5, 2), (5, 4), (5, 9)]) (S' := none) Fr_84 (by decide) (fun _ h => absurd h List.not_mem_nil) (Or.inl rfl)) (gF.tr (gF.mo (F' := [(5, 2), (5, 3), (5, 4), (5, 5), (5, 13), (5, 14), (5, 19)]) (C' := [(5, 2), (5, 4), (5, 9)]) (S' := none) Fr_89 (by decide) (by decide) (Or.inr rfl)) (gF.mo (F' := [(5, 2), (5, 3), (5, 4), (5, 5), (5, 13), (5, 14), (5, 19)]) (C' := [(5, 2), (5, 4), (5, 9)]) (S' := none) Fr_105 (by decide) (fun _ h => absurd h List.not_mem_nil) (Or.inl rfl)))))))))) (by decide) (by decide) (by decide) (by decide) (by decide) tk0
                  have tq_108 : swU ws_103 h0 := swU_mo ((gF.tr (gF.mo (F' := [(5, 2), (5, 3), (5, 4), (5, 5), (5, 13), (5, 14), (5, 19)]) (C' := [(5, 2), (5, 4), (5, 9)]) (S' := none) Fr_26 (by decide) (fun _ h => absurd h List.not_mem_nil) (Or.inl rfl)) (gF.tr (gF.mo (F' := [(5, 2), (5, 3), (5, 4), (5, 5), (5, 13), (5, 14), (5, 19)]) (C' := [(5, 2), (5, 4), (5, 9)]) (S' := none) Fr_32 (by decide) (fun _ h => absurd h List.not_mem_nil) (Or.inr rfl)) (gF.tr (gF.mo (F' := [(5, 2), (5, 3), (5, 4), (5, 5), (5, 13), (5, 14), (5, 19)]) (C' := [(5, 2), (5, 4), (5, 9)]) (S' := none) Fr_47 (by decide) (fun _ h => absurd h List.not_mem_nil) (Or.inr rfl)) (gF.tr (gF.mo (F' := [(5, 2), (5, 3), (5, 4), (5, 5), (5, 13), (5, 14), (5, 19)]) (C' := [(5, 2), (5, 4), (5, 9)]) (S' := none) Fr_60 (fun _ h => absurd h List.not_mem_nil) (by decide) (Or.inr rfl)) (gF.tr (gF.mo (F' := [(5, 2), (5, 3), (5, 4), (5, 5), (5, 13), (5, 14), (5, 19)]) (C' := [(5, 2), (5, 4), (5, 9)]) (S' := none) Fr_66 (fun _ h => absurd h List.not_mem_nil) (by decide) (Or.inr rfl)) (gF.tr (gF.mo (F' := [(5, 2), (5, 3), (5, 4), (5, 5), (5, 13), (5, 14), (5, 19)]) (C' := [(5, 2), (5, 4), (5, 9)]) (S' := none) Fr_84 (by decide) (fun _ h => absurd h List.not_mem_nil) (Or.inl rfl)) (gF.tr (gF.mo (F' := [(5, 2), (5, 3), (5, 4), (5, 5), (5, 13), (5, 14), (5, 19)]) (C' := [(5, 2), (5, 4), (5, 9)]) (S' := none) Fr_89 (by decide) (by decide) (Or.inr rfl)) (gF.mo (F' := [(5, 2), (5, 3), (5, 4), (5, 5), (5, 13), (5, 14), (5, 19)]) (C' := [(5, 2), (5, 4), (5, 9)]) (S' := none) Fr_105 (by decide) (fun _ h => absurd h List.not_mem_nil) (Or.inl rfl)))))))))) (by decide) (by decide) (by decide) (by decide) (by decide) (by decide) (by decide) (by decide) (by decide) (by decide) (by decide) tk1
                  have tq_109 : swC ws_103 h0 := swC_mo ((gF.tr (gF.mo (F' := [(5, 2), (5, 3), (5, 4), (5, 5), (5, 13), (5, 14), (5, 19)]) (C' := [(5, 2), (5, 4), (5, 9)]) (S' := none) Fr_26 (by decide) (fun _ h => absurd h List.not_mem_nil) (Or.inl rfl)) (gF.tr (gF.mo (F' := [(5, 2), (5, 3), (5, 4), (5, 5), (5, 13), (5, 14), (5, 19)]) (C' := [(5, 2), (5, 4), (5, 9)]) (S' := none) Fr_32 (by decide) (fun _ h => absurd h List.not_mem_nil) (Or.inr rfl)) (gF.tr (gF.mo (F' := [(5, 2), (5, 3), (5, 4), (5, 5), (5, 13), (5, 14), (5, 19)]) (C' := [(5, 2), (5, 4), (5, 9)]) (S' := none) Fr_47 (by decide) (fun _ h => absurd h List.not_mem_nil) (Or.inr rfl)) (gF.tr (gF.mo (F' := [(5, 2), (5, 3), (5, 4), (5, 5), (5, 13), (5, 14), (5, 19)]) (C' := [(5, 2), (5, 4), (5, 9)]) (S' := none) Fr_60 (fun _ h => absurd h List.not_mem_nil) (by decide) (Or.inr rfl)) (gF.tr (gF.mo (F' := [(5, 2), (5, 3), (5, 4), (5, 5), (5, 13), (5, 14), (5, 19)]) (C' := [(5, 2), (5, 4), (5, 9)]) (S' := none) Fr_66 (fun _ h => absurd h List.not_mem_nil) (by decide) (Or.inr rfl)) (gF.tr (gF.mo (F' := [(5, 2), (5, 3), (5, 4), (5, 5), (5, 13), (5, 14), (5, 19)]) (C' := [(5, 2), (5, 4), (5, 9)]) (S' := none) Fr_84 (by decide) (fun _ h => absurd h List.not_mem_nil) (Or.inl rfl)) (gF.tr (gF.mo (F' := [(5, 2), (5, 3), (5, 4), (5, 5), (5, 13), (5, 14), (5, 19)]) (C' := [(5, 2), (5, 4), (5, 9)]) (S' := none) Fr_89 (by decide) (by decide) (Or.inr rfl)) (gF.mo (F' := [(5, 2), (5, 3), (5, 4), (5, 5), (5, 13), (5, 14), (5, 19)]) (C' := [(5, 2), (5, 4), (5, 9)]) (S' := none) Fr_105 (by decide) (fun _ h => absurd h List.not_mem_nil) (Or.inl rfl)))))))))) (by decide) (by decide) (by decide) (by decide) (by decide) (by decide) (by decide) (by decide) (by decide) tk2
                  have tq_110 : arP g ws_103 h0 := arP_mo ((gF.tr (gF.mo (F' := [(5, 3), (5, 13), (5, 14), (5, 19)]) (C' := [(5, 2), (5, 4), (5, 9)]) (S' := none) Fr_60 (fun _ h => absurd h List.not_mem_nil) (by decide) (Or.inr rfl)) (gF.tr (gF.mo (F' := [(5, 3), (5, 13), (5, 14), (5, 19)]) (C' := [(5, 2), (5, 4), (5, 9)]) (S' := none) Fr_66 (fun _ h => absurd h List.not_mem_nil) (by decide) (Or.inr rfl)) (gF.tr (gF.mo (F' := [(5, 3), (5, 13), (5, 14), (5, 19)]) (C' := [(5, 2), (5, 4), (5, 9)]) (S' := none) Fr_84 (by decide) (fun _ h => absurd h List.not_mem_nil) (Or.inl rfl)) (gF.tr (gF.mo (F' := [(5, 3), (5, 13), (5, 14), (5, 19)]) (C' := [(5, 2), (5, 4), (5, 9)]) (S' := none) Fr_89 (by decide) (by decide) (Or.inr rfl)) (gF.mo (F' := [(5, 3), (5, 13), (5, 14), (5, 19)]) (C' := [(5, 2), (5, 4), (5, 9)]) (S' := none) Fr_105 (by decide) (fun _ h => absurd h List.not_mem_nil) (Or.inl rfl))))))) ((E_59.tr (E_65.tr (E_83.tr (E_88.tr E_104))))) (by decide) (by decide) tq_56
                  exact W.vret hx hb hr (fun t9 ht9 hW9 => ⟨⟨ws_103, rfl, ⟨trivial, (gN_of hD hk_100 (j := 0) rfl), (gN_of hD hk_100 (j := 12) rfl), tq_107, tq_108, tq_109, tq_110⟩, ⟨(E_25.tr (E_31.tr (E_46.tr (E_59.tr (E_65.tr (E_83.tr (E_88.tr E_104))))))), (gF.tr (gF.mo (F' := [(5, 2), (5, 3), (5, 4), (5, 5), (5, 11), (5, 12), (5, 13), (5, 14), (5, 15), (5, 17), (5, 19)]) (C' := [(5, 2), (5, 4), (5, 9)]) (S' := none) Fr_26 (by decide) (fun _ h => absurd h List.not_mem_nil) (Or.inl rfl)) (gF.tr (gF.mo (F' := [(5, 2), (5, 3), (5, 4), (5, 5), (5, 11), (5, 12), (5, 13), (5, 14), (5, 15), (5, 17), (5, 19)]) (C' := [(5, 2), (5, 4), (5, 9)]) (S' := none) Fr_32 (by decide) (fun _ h => absurd h List.not_mem_nil) (Or.inr rfl)) (gF.tr (gF.mo (F' := [(5, 2), (5, 3), (5, 4), (5, 5), (5, 11), (5, 12), (5, 13), (5, 14), (5, 15), (5, 17), (5, 19)]) (C' := [(5, 2), (5, 4), (5, 9)]) (S' := none) Fr_47 (by decide) (fun _ h => absurd h List.not_mem_nil) (Or.inr rfl)) (gF.tr (gF.mo (F' := [(5, 2), (5, 3), (5, 4), (5, 5), (5, 11), (5, 12), (5, 13), (5, 14), (5, 15), (5, 17), (5, 19)]) (C' := [(5, 2), (5, 4), (5, 9)]) (S' := none) Fr_60 (fun _ h => absurd h List.not_mem_nil) (by decide) (Or.inr rfl)) (gF.tr (gF.mo (F' := [(5, 2), (5, 3), (5, 4), (5, 5), (5, 11), (5, 12), (5, 13), (5, 14), (5, 15), (5, 17), (5, 19)]) (C' := [(5, 2), (5, 4), (5, 9)]) (S' := none) Fr_66 (fun _ h => absurd h List.not_mem_nil) (by decide) (Or.inr rfl)) (gF.tr (gF.mo (F' := [(5, 2), (5, 3), (5, 4), (5, 5), (5, 11), (5, 12), (5, 13), (5, 14), (5, 15), (5, 17), (5, 19)]) (C' := [(5, 2), (5, 4), (5, 9)]) (S' := none) Fr_84 (by decide) (fun _ h => absurd h List.not_mem_nil) (Or.inl rfl)) (gF.tr (gF.mo (F' := [(5, 2), (5, 3), (5, 4), (5, 5), (5, 11), (5, 12), (5, 13), (5, 14), (5, 15), (5, 17), (5, 19)]) (C' := [(5, 2), (5, 4), (5, 9)]) (S' := none) Fr_89 (by decide) (by decide) (Or.inr rfl)) (gF.mo (F' := [(5, 2), (5, 3), (5, 4), (5, 5), (5, 11), (5, 12), (5, 13), (5, 14), (5, 15), (5, 17), (5, 19)]) (C' := [(5, 2), (5, 4), (5, 9)]) (S' := none) Fr_105 (by decide) (fun _ h => absurd h List.not_mem_nil) (Or.inl rfl))))))))), hG, by rw [ht9]; exact hP, hD, _, _, by rw [ht9]; exact hLd, hcl, hsl⟩⟩, hS.F ht9⟩) hS.2.2 dX5_makeArray_196
                refine lv_icmp_ge (tgt := 167) hx hb dX5_makeArray_142 (by decide) (fun c_111 => ?_) (fun c_111 => ?_)
                · exact J_167 (dc_135_4) (ds_135_4) H locs ls (by omega) (by omega) hP hD hS (lv_sub hl [0, 1] rfl)
                · refine lv_iload_n hx hb dX5_makeArray_145 rfl (lv_at hl 2 rfl) ?_
                  refine lv_aload_n hx hb dX5_makeArray_146 rfl (lv_at hl 0 rfl) ?_
                  refine va_get (D := gD g) (ci := 5) (v := .ref r2_55) (C := RX5) (T := TX5) (N := 20) hx hb hts inX5 hown hK hP k_1 hk_74 rfl 2 (by decide) (hts _ kw_1069) (fun _ h9 => h9) rfl dX5_makeArray_147 ?_
                  obtain ⟨k_112, f_112, hk_112⟩ := gI_of a_r2_55
                  obtain ⟨z_113, ez_113⟩ : ∃ z : Int32, Int32.ofNat n2_55 = z := ⟨_, rfl⟩
                  refine va_alen (v := z_113) hx hb hK hP k_112 1 hk_112 rfl ez_113 dX5_makeArray_150 ?_
                  refine lv_icmp_ge (tgt := 167) hx hb dX5_makeArray_151 (by decide) (fun c_114 => ?_) (fun c_114 => ?_)
                  · exact J_167 (dc_135_4) (ds_135_4) H locs ls (by omega) (by omega) hP hD hS (lv_sub hl [0, 1] rfl)
                  · refine lv_aload_n hx hb dX5_makeArray_154 rfl (lv_at hl 0 rfl) ?_
                    refine va_get (D := gD g) (ci := 5) (v := .ref r2_55) (C := RX5) (T := TX5) (N := 20) hx hb hts inX5 hown hK hP k_1 hk_74 rfl 2 (by decide) (hts _ kw_1069) (fun _ h9 => h9) rfl dX5_makeArray_155 ?_
                    refine lv_iload_n hx hb dX5_makeArray_158 rfl (lv_at hl 2 rfl) ?_
                    refine lv_iconst (v := 0) hx hb dX5_makeArray_159 (by decide) ?_
                    have hC9 : hol ws_64 r2_55 [(5, 2)] := (hol_u hG.u hk_74 (j := 2) rfl a_r2_55 (by decide))
                    have hS9 : holS ws_64 r2_55 none := holS_n
                    refine va_iast hx hb hK hP hD hS k_112 1 hk_112 rfl (i_in2 (by have e0 : (0 : Int32).toInt = 0 := (by decide); have e20000 : (20000 : Int32).toInt = 20000 := (by decide); have q_f5_55 := f5_55; have q_f27_55 := f27_55; have q_iv_63 := iv_63; have q_c_111 := i_nle c_111; have q_z_113 := i_len ez_113 f5_74; have q_c_114 := i_nle c_114; have q_z_75 := i_addD ez_75; have q_f25_1 := f25_1; have q_f26_1 := f26_1; have q_c_5 := i_le c_5; have q_z_18 := i_subD ez_18; have q_c_19 := i_le c_19; have q_z_42 := i_addD ez_42; have g_c3_1 := i_rg c3_1; have g_v2_62 := i_rg v2_62; have g_x1 := i_rg x1; have g_z_113 := i_rg z_113; have g_z_18 := i_rg z_18; have g_z_42 := i_rg z_42; have g_z_75 := i_rg z_75; omega)) dX5_makeArray_160 (fun H locs hP hD hS => ?_)
                    obtain ⟨ws_115, e_ws_115⟩ : ∃ z, z = ws_64.set k_112 (r2_55, .inl (g.cI, n2_55, .inl (upd f_112 (v2_62 : Int32).toNatClampNeg 0))) := ⟨_, rfl⟩
                    have hP : va_P (gD g) cl0 ws_115 H := by rw [e_ws_115]; exact hP
                    have hD : va_D A ws_115 := by rw [e_ws_115]; exact hD
                    have E_116 : gE ws_64 ws_115 := gE_ari e_ws_115 hk_112
                    have hG : Good g ws_115 := Good_arI e_ws_115 hk_112 hG
                    have Fr_117 : gF [] [(5, 2)] none ws_64 ws_115 := gF_ar e_ws_115 hk_112 rfl hC9 hS9
                    have pp_118 := Fr_117.pp
                    have hk_74 := gset_arO e_ws_115 hk_112 hk_74
                    have o_h0 := E_116.1 _ _ o_h0
                    have a_r1_74 := E_116.1 _ _ a_r1_74
                    have a_r6_74 := E_116.1 _ _ a_r6_74
                    have a_r8_74 := E_116.1 _ _ a_r8_74
                    have a_r9_74 := E_116.1 _ _ a_r9_74
                    have a_r10_74 := E_116.1 _ _ a_r10_74
                    have o_b_2 := E_116.1 _ _ o_b_2
                    have F_b_2 := F_b_2.mo E_116
                    have a_r2_55 := E_116.1 _ _ a_r2_55
                    have a_r4_40 := E_116.1 _ _ a_r4_40
                    have o_b_3 := E_116.1 _ _ o_b_3
                    obtain ⟨z_119, ez_119⟩ : ∃ z : Int32, v2_62 + Int32.ofInt 1 = z := ⟨_, rfl⟩
                    refine lv_iinc (v := z_119) (lv' := [(2, .int z_119), (0, .ref h0), (1, .int x1)]) hx hb dX5_makeArray_161 hl (k := 2) rfl ez_119 (by decide) rfl (fun ls hl => ?_)
                    refine lv_goto (tgt := 135) hx hb dX5_makeArray_164 (by decide) ?_
                    exact ih_135 _ (by have e0 : (0 : Int32).toInt = 0 := (by decide); have e20000 : (20000 : Int32).toInt = 20000 := (by decide); obtain ⟨u_z_119, q_z_119⟩ := i_iz ez_119 (by decide) (by decide); have q_iv_63 := iv_63; have q_c_111 := i_nle c_111; have q_c_114 := i_nle c_114; have q_z_75 := i_addD ez_75; have q_z_113 := i_len ez_113 f5_74; have q_f25_1 := f25_1; have q_f26_1 := f26_1; have q_c_5 := i_le c_5; have q_z_18 := i_subD ez_18; have q_c_19 := i_le c_19; have q_z_42 := i_addD ez_42; have q_f5_55 := f5_55; have q_f27_55 := f27_55; have g_c3_1 := i_rg c3_1; have g_v2_62 := i_rg v2_62; have g_x1 := i_rg x1; have g_z_113 := i_rg z_113; have g_z_119 := i_rg z_119; have g_z_18 := i_rg z_18; have g_z_42 := i_rg z_42; have g_z_75 := i_rg z_75; omega) (z_119) (dc_135_4) (ds_135_4) ws_115 H locs ls rfl (by have e0 : (0 : Int32).toInt = 0 := (by decide); have e20000 : (20000 : Int32).toInt = 20000 := (by decide); obtain ⟨u_z_119, q_z_119⟩ := i_iz ez_119 (by decide) (by decide); have q_iv_63 := iv_63; have q_c_111 := i_nle c_111; have q_c_114 := i_nle c_114; have q_z_75 := i_addD ez_75; have q_z_113 := i_len ez_113 f5_74; have q_f25_1 := f25_1; have q_f26_1 := f26_1; have q_c_5 := i_le c_5; have q_z_18 := i_subD ez_18; have q_c_19 := i_le c_19; have q_z_42 := i_addD ez_42; have q_f5_55 := f5_55; have q_f27_55 := f27_55; have g_c3_1 := i_rg c3_1; have g_v2_62 := i_rg v2_62; have g_x1 := i_rg x1; have g_z_113 := i_rg z_113; have g_z_119 := i_rg z_119; have g_z_18 := i_rg z_18; have g_z_42 := i_rg z_42; have g_z_75 := i_rg z_75; omega) ((E_65.tr E_116)) ((gF.tr Fr_66 Fr_117)) hG (by omega) (by omega) hP hD hS (lv_sub hl [1, 2, 0] rfl)
            exact J_135 _ (c3_1) (dc_117_3) (ds_117_3) ws_58 H locs ls rfl (by have e0 : (0 : Int32).toInt = 0 := (by decide); have e20000 : (20000 : Int32).toInt = 20000 := (by decide); have q_f25_1 := f25_1; have q_f26_1 := f26_1; have q_z_18 := i_subD ez_18; have q_z_42 := i_addD ez_42; have q_c_5 := i_le c_5; have q_c_19 := i_le c_19; have g_c3_1 := i_rg c3_1; have g_x1 := i_rg x1; have g_z_18 := i_rg z_18; have g_z_42 := i_rg z_42; omega) (gE.rf) (gF.rf) hG (by omega) (by omega) hP hD hS (lv_sub hl [1, 2, 0] rfl)
          refine lv_icmp_le (tgt := 117) hx hb dX5_makeArray_89 (by decide) (fun c_120 => ?_) (fun c_120 => ?_)
          · exact J_117 (dc_78_2) (ds_78_2) ws_30 H locs ls (gE.rf) (gF.rf) hG (by omega) (by omega) hP hD hS (lv_sub hl [0, 1] rfl)
          · refine lv_aload_n hx hb dX5_makeArray_92 rfl (lv_at hl 0 rfl) ?_
            refine lv_aload_n hx hb dX5_makeArray_93 rfl (lv_at hl 0 rfl) ?_
            refine va_get (D := gD g) (ci := 5) (v := .ref r2_1) (C := RX5) (T := TX5) (N := 20) hx hb hts inX5 hown hK hP k_1 hk_40 rfl 2 (by decide) (hts _ kw_1069) (fun _ h9 => h9) rfl dX5_makeArray_94 ?_
            refine lv_sipush (v := 20000) hx hb dX5_makeArray_97 (by decide) ?_
            refine lv_iconst (v := 2) hx hb dX5_makeArray_100 (by decide) ?_
            refine lv_aload_n hx hb dX5_makeArray_101 rfl (lv_at hl 0 rfl) ?_
            refine va_get (D := gD g) (ci := 5) (v := .int c3_1) (C := RX5) (T := TX5) (N := 20) hx hb hts inX5 hown hK hP k_1 hk_40 rfl 3 (by decide) (hts _ kw_1009) (fun _ h9 => h9) rfl dX5_makeArray_102 ?_
            refine lv_iload_n hx hb dX5_makeArray_105 rfl (lv_at hl 1 rfl) ?_
            refine lv_iadd hx hb dX5_makeArray_106 ?_
            refine lv_topi (fun z_121 ez_121 => ?_)
            refine lv_imul hx hb dX5_makeArray_107 ?_
            refine lv_topi (fun z_122 ez_122 => ?_)
            refine va_mmin hx hb (by rw [hml]; exact hl.1.symm) hown (hts _ kw_1098) (hts _ kw_1750) (hts _ kw_1748) (hts _ kw_1749) (Nat.le_of_ble_eq_true rfl) (Nat.le_of_ble_eq_true rfl) (show dc_78_2 ≤ PC ws + (0) from (by omega)) (show ds_78_2 ≤ PS ws + (0) from (by omega)) dX5_makeArray_108 ?_
            refine lv_topi (fun z_123 ez_123 => ?_)
            have hFc := gfree hD hS hA
            have pg_124 := ge_5_9 hD hk_40 rfl a_r9_40
            have pg_125 := ge_5_2 hD hk_40 rfl a_r2_1
            have pg_126 := ge_5_4 hD hk_40 rfl a_r4_40
            refine W_led (fun hL0 => ?_)
            refine va_callq (va_runS (As := [.ref r2_1, .int z_123]) (rest := [.ref h0]) ⟨hx, hb, hml, hown, hts⟩ (m_J7_copyOf_59c91 l g H ws_30 r2_1 (n2_1) (z_123) none hG a_r2_1 f5_40 (by have e0 : (0 : Int32).toInt = 0 := (by decide); have e20000 : (20000 : Int32).toInt = 20000 := (by decide); have q_z_123 := i_min ez_123; have q_z_122 := i_mulL (c := 2) (K := 1073741823) ez_122 (by decide) (by decide) (by decide) (by decide); have q_z_121 := i_addD ez_121; have q_f25_1 := f25_1; have q_f26_1 := f26_1; have q_c_5 := i_le c_5; have q_z_18 := i_subD ez_18; have q_c_19 := i_le c_19; have q_z_42 := i_addD ez_42; have q_c_120 := i_nle c_120; have q_z_44 := i_len ez_44 f5_40; have g_c3_1 := i_rg c3_1; have g_x1 := i_rg x1; have g_z_121 := i_rg z_121; have g_z_122 := i_rg z_122; have g_z_123 := i_rg z_123; have g_z_18 := i_rg z_18; have g_z_42 := i_rg z_42; have g_z_44 := i_rg z_44; omega) (by have e0 : (0 : Int32).toInt = 0 := (by decide); have e20000 : (20000 : Int32).toInt = 20000 := (by decide); have q_z_123 := i_min ez_123; have q_z_122 := i_mulL (c := 2) (K := 1073741823) ez_122 (by decide) (by decide) (by decide) (by decide); have q_z_121 := i_addD ez_121; have q_f25_1 := f25_1; have q_f26_1 := f26_1; have q_c_5 := i_le c_5; have q_z_18 := i_subD ez_18; have q_c_19 := i_le c_19; have q_z_42 := i_addD ez_42; have q_c_120 := i_nle c_120; have q_z_44 := i_len ez_44 f5_40; have g_c3_1 := i_rg c3_1; have g_x1 := i_rg x1; have g_z_121 := i_rg z_121; have g_z_122 := i_rg z_122; have g_z_123 := i_rg z_123; have g_z_18 := i_rg z_18; have g_z_42 := i_rg z_42; have g_z_44 := i_rg z_44; omega) (by have e0 : (0 : Int32).toInt = 0 := (by decide); have e20000 : (20000 : Int32).toInt = 20000 := (by decide); have q_f5_1 := f5_1; have q_f27_1 := f27_1; have q_z_44 := i_len ez_44 f5_40; have q_z_123 := i_min ez_123; have q_c_120 := i_nle c_120; have q_z_122 := i_mulL (c := 2) (K := 1073741823) ez_122 (by decide) (by decide) (by decide) (by decide); have q_z_42 := i_addD ez_42; have q_z_121 := i_addD ez_121; have q_f25_1 := f25_1; have q_f26_1 := f26_1; have q_c_5 := i_le c_5; have q_z_18 := i_subD ez_18; have q_c_19 := i_le c_19; have g_c3_1 := i_rg c3_1; have g_x1 := i_rg x1; have g_z_121 := i_rg z_121; have g_z_122 := i_rg z_122; have g_z_123 := i_rg z_123; have g_z_18 := i_rg z_18; have g_z_42 := i_rg z_42; have g_z_44 := i_rg z_44; omega)) (va_cwS 2 hts (gd_S kw_1097 kw_1745 kw_1723 kw_1744) rfl rfl rfl (by decide +kernel) ⟨Nat.le_of_ble_eq_true rfl, Nat.le_of_ble_eq_true rfl⟩) ⟨gblindH, fun U hU hW9 => gmkH hU hW9 hP hK hD hex hE hS hFc⟩ rfl rfl hl.1 rfl (lv_room (Nat.le_of_ble_eq_true rfl)) dX5_makeArray_111 ⟨(show dc_78_2 + (1) ≤ PC ws + (0) from (by have e0 : (0 : Int32).toInt = 0 := (by decide); have e1 : (1 : Int32).toInt = 1 := (by decide); have e20000 : (20000 : Int32).toInt = 20000 := (by decide); have q_z_123 := i_min ez_123; have q_z_122 := i_mulL (c := 2) (K := 1073741823) ez_122 (by decide) (by decide) (by decide) (by decide); have q_z_121 := i_addD ez_121; have q_f25_1 := f25_1; have q_f26_1 := f26_1; have q_c_5 := i_le c_5; have q_z_18 := i_subD ez_18; have q_c_19 := i_le c_19; have q_z_42 := i_addD ez_42; have q_c_120 := i_nle c_120; have q_z_44 := i_len ez_44 f5_40; have g_c3_1 := i_rg c3_1; have g_x1 := i_rg x1; have g_z_121 := i_rg z_121; have g_z_122 := i_rg z_122; have g_z_123 := i_rg z_123; have g_z_18 := i_rg z_18; have g_z_42 := i_rg z_42; have g_z_44 := i_rg z_44; omega)), (show ds_78_2 + (z_123.toInt.toNat) ≤ PS ws + (0) from (by have e0 : (0 : Int32).toInt = 0 := (by decide); have e1 : (1 : Int32).toInt = 1 := (by decide); have e20000 : (20000 : Int32).toInt = 20000 := (by decide); have q_z_123 := i_min ez_123; have q_z_122 := i_mulL (c := 2) (K := 1073741823) ez_122 (by decide) (by decide) (by decide) (by decide); have q_z_121 := i_addD ez_121; have q_f25_1 := f25_1; have q_f26_1 := f26_1; have q_c_5 := i_le c_5; have q_z_18 := i_subD ez_18; have q_c_19 := i_le c_19; have q_z_42 := i_addD ez_42; have q_c_120 := i_nle c_120; have q_z_44 := i_len ez_44 f5_40; have g_c3_1 := i_rg c3_1; have g_x1 := i_rg x1; have g_z_121 := i_rg z_121; have g_z_122 := i_rg z_122; have g_z_123 := i_rg z_123; have g_z_18 := i_rg z_18; have g_z_42 := i_rg z_42; have g_z_44 := i_rg z_44; omega))⟩) hS (fun q _ h => hFc q h) hFc (fun r_127 ws_128 t9 H1 locs ht9 hvm9 hw9 hB9 hz9 hk9 hS => ?_)
            obtain ⟨E_129, Fr_130, hG, hP1, hD1, dc_131, ds_132, hLd, hdc_131, hds_132⟩ := hB9
            rw [ht9] at hLd
            refine W_tight (hL0.tr hLd).1 (hL0.tr hLd).2.1 ?_
            clear hL0 hLd
            have hP : va_P (gD g) cl0 ws_128 H1 := by rw [← ht9]; exact hP1
            have hD : va_D A ws_128 := hD1.weaken (fun _ _ _ h => hFc _ h)
            have o_r_127 := hw9
            clear hP1 hD1 hz9 hk9 hvm9 ht9 hw9
            generalize H1 = H at hP hS ⊢
            have aa_133 := a_r1_40
            have aa_134 := a_r2_1
            have aa_135 := a_r4_40
            have aa_136 := a_r6_40
            have aa_137 := a_r8_40
            have aa_138 := a_r9_40
            have aa_139 := a_r10_40
            have o_h0 := E_129.1 _ _ o_h0
            obtain ⟨b_140, n_141, rfl, a_b_140, s_b_140, fr_b_140, h_b_140⟩ := o_r_127
            obtain ⟨fs9, hk_142, hq_142⟩ := ((gF.a (F' := []) Fr_130 (fun _ h => h))) _ _ _ hk_40
            obtain ⟨v0_142, r1_142, n1_142, r2_142, n2_142, c3_142, r4_142, n4_142, c5_142, r6_142, n6_142, c7_142, r8_142, n8_142, r9_142, n9_142, r10_142, n10_142, c11_142, v12_142, c13_142, c14_142, c15_142, l16_142, c17_142, c18_142, c19_142, rfl, o_v0_142, F_v0_142, a_r1_142, f3_142, a_r2_142, f5_142, a_r4_142, f7_142, a_r6_142, f9_142, a_r8_142, f11_142, a_r9_142, f13_142, a_r10_142, f15_142, o_v12_142, f17_142, f18_142, f19_142, f20_142, f21_142, f22_142, f23_142, f24_142, f25_142, f26_142, f27_142, f28_142, f29_142, f30_142, f31_142, -⟩ := (hG.1 _ _ _ _ hk_142).hX5 rfl
            have hn9 := fe_qr (hq_142 0 (by decide))
            subst hn9
            have o_b_2 := o_v0_142 _ rfl
            have F_b_2 := F_v0_142 _ rfl
            obtain rfl := fe_r (hq_142 2 (by decide))
            have hn9 := gI_n hD ((E_129).1 _ _ aa_134) a_r2_142
            subst hn9
            have a_r2_1 := a_r2_142
            obtain rfl := fe_i (hq_142 3 (by decide))
            obtain rfl := fe_r (hq_142 4 (by decide))
            have hn9 := gI_n hD ((E_129).1 _ _ aa_135) a_r4_142
            subst hn9
            have a_r4_40 := a_r4_142
            obtain rfl := fe_i (hq_142 5 (by decide))
            have hn9 := fe_qr (hq_142 12 (by decide))
            subst hn9
            have o_b_3 := o_v12_142 _ rfl
            obtain rfl := fe_i (hq_142 13 (by decide))
            have hV9 : okv ws_128 5 2 (.ref b_140) := (okv_a a_b_140 fr_b_140)
            have hD8 := hD
            refine va_put (D := gD g) (ci := 5) (v := .ref b_140) (ty := (.array .int)) (C := RX5) (T := TX5) (N := 20) hx hb hts inX5 tyX5 tyX5_ok nmX5 hown hK hP hD hS k_1 hk_142 rfl 2 (by decide) (hts _ kw_1069) (fun _ h9 => h9) rfl (by decide +kernel) rfl rfl (Nat.le_of_ble_eq_true rfl) dX5_makeArray_114 (fun H locs hP hD hS => ?_)
            have f_143 : n_141 ≤ 20000 := (by have e0 : (0 : Int32).toInt = 0 := (by decide); have e20000 : (20000 : Int32).toInt = 20000 := (by decide); have q_s_b_140 := s_b_140; have q_b_140 := h_b_140; have q_z_123 := i_min ez_123; have q_z_122 := i_mulL (c := 2) (K := 1073741823) ez_122 (by decide) (by decide) (by decide) (by decide); have q_z_121 := i_addD ez_121; have q_f25_1 := f25_1; have q_f26_1 := f26_1; have q_c_5 := i_le c_5; have q_z_18 := i_subD ez_18; have q_c_19 := i_le c_19; have q_z_42 := i_addD ez_42; have q_c_120 := i_nle c_120; have g_c3_1 := i_rg c3_1; have g_x1 := i_rg x1; have g_z_121 := i_rg z_121; have g_z_122 := i_rg z_122; have g_z_123 := i_rg z_123; have g_z_18 := i_rg z_18; have g_z_42 := i_rg z_42; have g_z_44 := i_rg z_44; omega)
            have hi_144 : invX5 g ws_128 h0 [.ref b_2, .ref r1_142, .ref b_140, .int c3_1, .ref r4_40, .int z_20, .ref r6_142, .int c7_142, .ref r8_142, .ref r9_142, .ref r10_142, .int c11_142, .ref b_3, .int c13_1, .int c14_142, .int c15_142, .long l16_142, .int c17_142, .int c18_142, .int c19_142] := ⟨(some b_2), r1_142, (n1_142), b_140, (n_141), (c3_1), r4_40, (n4_40), (z_20), r6_142, (n6_142), (c7_142), r8_142, (n8_142), r9_142, (n9_142), r10_142, (n10_142), (c11_142), (some b_3), (c13_1), (c14_142), (c15_142), (l16_142), (c17_142), (c18_142), (c19_142), rfl, (fun b h9 => by cases h9; exact o_b_2), (fun b h9 => by cases h9; exact F_b_2), a_r1_142, f3_142, a_b_140, s_b_140, a_r4_40, f7_142, a_r6_142, f9_142, a_r8_142, f11_142, a_r9_142, f13_142, a_r10_142, f15_142, (fun b h9 => by cases h9; exact o_b_3), f17_142, f18_142, f19_142, f20_142, f21_142, f22_142, f23_142, f24_142, f25_142, f26_142, f_143, f28_142, f29_142, f30_142, f31_142, trivial⟩
            obtain ⟨ws_146, e_ws_146⟩ : ∃ z, z = ws_128.set k_1 (h0, .inr (5, [.ref b_2, .ref r1_142, .ref b_140, .int c3_1, .ref r4_40, .int z_20, .ref r6_142, .int c7_142, .ref r8_142, .ref r9_142, .ref r10_142, .int c11_142, .ref b_3, .int c13_1, .int c14_142, .int c15_142, .long l16_142, .int c17_142, .int c18_142, .int c19_142])) := ⟨_, rfl⟩
            have hP : va_P (gD g) cl0 ws_146 H := by rw [e_ws_146]; exact hP
            have hD : va_D A ws_146 := by rw [e_ws_146]; exact hD
            have E_147 : gE ws_128 ws_146 := gE_set e_ws_146 hk_142 (cw_o (fi := 2) (v := .ref b_140) rfl (by decide))
            have hG : Good g ws_146 := Good_set (fi := 2) (v := .ref b_140) e_ws_146 hk_142 E_147 rfl hV9 hG (ivX5 hi_144)
            have Fr_148 : gF [(5, 2)] [] (some h0) ws_128 ws_146 := gF_put0 (fi := 2) (v := .ref b_140) e_ws_146 hk_142 rfl (gr_5_2 hD8 hk_142 rfl a_r2_1 e_ws_146 rfl a_b_140 (by have e0 : (0 : Int32).toInt = 0 := (by decide); have e20000 : (20000 : Int32).toInt = 20000 := (by decide); have q_f5_1 := f5_1; have q_f27_1 := f27_1; have q_z_44 := i_len ez_44 f5_40; have q_s_b_140 := s_b_140; have q_b_140 := h_b_140; have q_f_143 := f_143; have q_c_120 := i_nle c_120; have q_z_123 := i_min ez_123; have q_z_42 := i_addD ez_42; have q_z_122 := i_mulL (c := 2) (K := 1073741823) ez_122 (by decide) (by decide) (by decide) (by decide); have q_f25_1 := f25_1; have q_f26_1 := f26_1; have q_c_5 := i_le c_5; have q_z_18 := i_subD ez_18; have q_c_19 := i_le c_19; have q_z_121 := i_addD ez_121; have g_c3_1 := i_rg c3_1; have g_x1 := i_rg x1; have g_z_121 := i_rg z_121; have g_z_122 := i_rg z_122; have g_z_123 := i_rg z_123; have g_z_18 := i_rg z_18; have g_z_42 := i_rg z_42; have g_z_44 := i_rg z_44; omega)).1
            have pg_145 := (gr_5_2 (ws := ws_128) hD8 hk_142 rfl a_r2_1 e_ws_146 rfl a_b_140 (by have e0 : (0 : Int32).toInt = 0 := (by decide); have e20000 : (20000 : Int32).toInt = 20000 := (by decide); have q_f5_1 := f5_1; have q_f27_1 := f27_1; have q_z_44 := i_len ez_44 f5_40; have q_s_b_140 := s_b_140; have q_b_140 := h_b_140; have q_f_143 := f_143; have q_c_120 := i_nle c_120; have q_z_123 := i_min ez_123; have q_z_42 := i_addD ez_42; have q_z_122 := i_mulL (c := 2) (K := 1073741823) ez_122 (by decide) (by decide) (by decide) (by decide); have q_f25_1 := f25_1; have q_f26_1 := f26_1; have q_c_5 := i_le c_5; have q_z_18 := i_subD ez_18; have q_c_19 := i_le c_19; have q_z_121 := i_addD ez_121; have g_c3_1 := i_rg c3_1; have g_x1 := i_rg x1; have g_z_121 := i_rg z_121; have g_z_122 := i_rg z_122; have g_z_123 := i_rg z_123; have g_z_18 := i_rg z_18; have g_z_42 := i_rg z_42; have g_z_44 := i_rg z_44; omega)).2
            have hkN := gset_self e_ws_146 hk_142
            have hk_142 := hkN
            have o_h0 := E_147.1 _ _ o_h0
            have a_b_140 := E_147.1 _ _ a_b_140
            have a_r1_142 := E_147.1 _ _ a_r1_142
            have a_r6_142 := E_147.1 _ _ a_r6_142
            have a_r8_142 := E_147.1 _ _ a_r8_142
            have a_r9_142 := E_147.1 _ _ a_r9_142
            have a_r10_142 := E_147.1 _ _ a_r10_142
            have o_b_2 := E_147.1 _ _ o_b_2
            have F_b_2 := F_b_2.mo E_147
            have a_r4_40 := E_147.1 _ _ a_r4_40
            have o_b_3 := E_147.1 _ _ o_b_3
            exact J_117 (dc_78_2 + dc_131) (ds_78_2 + ds_132) ws_146 H locs ls ((E_129.tr E_147)) ((gF.tr (gF.mo (F' := [(5, 2)]) (C' := []) (S' := none) Fr_130 (fun _ h => absurd h List.not_mem_nil) (fun _ h => h) (Or.inr rfl)) (gF.mo (F' := [(5, 2)]) (C' := []) (S' := none) Fr_148 (fun _ h => h) (fun _ h => h) (Or.inl rfl)))) hG (by have e0 : (0 : Int32).toInt = 0 := (by decide); have e20000 : (20000 : Int32).toInt = 20000 := (by decide); have q_f5_1 := f5_1; have q_f27_1 := f27_1; have q_z_44 := i_len ez_44 f5_40; have q_z_123 := i_min ez_123; have q_s_b_140 := s_b_140; have q_b_140 := h_b_140; have q_f_143 := f_143; have q_c_120 := i_nle c_120; have q_z_122 := i_mulL (c := 2) (K := 1073741823) ez_122 (by decide) (by decide) (by decide) (by decide); have q_z_42 := i_addD ez_42; have q_z_121 := i_addD ez_121; have q_f25_1 := f25_1; have q_f26_1 := f26_1; have q_c_5 := i_le c_5; have q_z_18 := i_subD ez_18; have q_c_19 := i_le c_19; have g_c3_1 := i_rg c3_1; have g_x1 := i_rg x1; have g_z_121 := i_rg z_121; have g_z_122 := i_rg z_122; have g_z_123 := i_rg z_123; have g_z_18 := i_rg z_18; have g_z_42 := i_rg z_42; have g_z_44 := i_rg z_44; omega) (by have e0 : (0 : Int32).toInt = 0 := (by decide); have e20000 : (20000 : Int32).toInt = 20000 := (by decide); have q_f5_1 := f5_1; have q_f27_1 := f27_1; have q_z_44 := i_len ez_44 f5_40; have q_z_123 := i_min ez_123; have q_s_b_140 := s_b_140; have q_b_140 := h_b_140; have q_f_143 := f_143; have q_c_120 := i_nle c_120; have q_z_122 := i_mulL (c := 2) (K := 1073741823) ez_122 (by decide) (by decide) (by decide) (by decide); have q_z_42 := i_addD ez_42; have q_z_121 := i_addD ez_121; have q_f25_1 := f25_1; have q_f26_1 := f26_1; have q_c_5 := i_le c_5; have q_z_18 := i_subD ez_18; have q_c_19 := i_le c_19; have g_c3_1 := i_rg c3_1; have g_x1 := i_rg x1; have g_z_121 := i_rg z_121; have g_z_122 := i_rg z_122; have g_z_123 := i_rg z_123; have g_z_18 := i_rg z_18; have g_z_42 := i_rg z_42; have g_z_44 := i_rg z_44; omega) hP hD hS (lv_sub hl [0, 1] rfl)
        refine lv_icmp_lt (tgt := 78) hx hb dX5_makeArray_57 (by decide) (fun c_149 => ?_) (fun c_149 => ?_)
        · exact J_78 (0) (0) ws_24 H locs ls (gE.rf) (gF.rf) hG (by have e0 : (0 : Int32).toInt = 0 := (by decide); omega) (by have e0 : (0 : Int32).toInt = 0 := (by decide); omega) (gP_of hD hk_1 (fun q90 e90 p91 q91 e91 g91 => by cases e90; cases e91; have z91 := gI_n hD a_r4_1 g91; subst z91; exact (by have e1 : (1 : Int32).toInt = 1 := (by decide); have e400 : (400 : Int32).toInt = 400 := (by decide); have q_f7_1 := f7_1; have q_f30_1 := f30_1; have q_f31_1 := f31_1; have q_ar_4 := ar_4; have q_z_20 := i_addD ez_20; have q_f_21 := f_21; have q_f_22 := f_22; have q_z_29 := i_len ez_29 f7_1; have q_c_149 := i_lt c_149; have q_f28_1 := f28_1; have q_f29_1 := f29_1; have q_c_17 := i_nle c_17; have g_c5_1 := i_rg c5_1; have g_z_20 := i_rg z_20; have g_z_29 := i_rg z_29; omega))) hP hD hS (lv_sub hl [0, 1] rfl)
        · refine lv_aload_n hx hb dX5_makeArray_60 rfl (lv_at hl 0 rfl) ?_
          refine lv_aload_n hx hb dX5_makeArray_61 rfl (lv_at hl 0 rfl) ?_
          refine va_get (D := gD g) (ci := 5) (v := .ref r4_1) (C := RX5) (T := TX5) (N := 20) hx hb hts inX5 hown hK hP k_1 hk_1 rfl 4 (by decide) (hts _ kw_1010) (fun _ h9 => h9) rfl dX5_makeArray_62 ?_
          refine lv_iconst (v := 2) hx hb dX5_makeArray_65 (by decide) ?_
          refine lv_aload_n hx hb dX5_makeArray_66 rfl (lv_at hl 0 rfl) ?_
          refine va_get (D := gD g) (ci := 5) (v := .ref r4_1) (C := RX5) (T := TX5) (N := 20) hx hb hts inX5 hown hK hP k_1 hk_1 rfl 4 (by decide) (hts _ kw_1010) (fun _ h9 => h9) rfl dX5_makeArray_67 ?_
          obtain ⟨z_150, ez_150⟩ : ∃ z : Int32, Int32.ofNat n4_1 = z := ⟨_, rfl⟩
          refine va_alen (v := z_150) hx hb hK hP k_28 1 hk_28 rfl ez_150 dX5_makeArray_70 ?_
          refine lv_imul hx hb dX5_makeArray_71 ?_
          refine lv_topi (fun z_151 ez_151 => ?_)
          have hFc := gfree hD hS hA
          have pg_152 := ge_5_9 hD hk_1 rfl a_r9_1
          have pg_153 := ge_5_2 hD hk_1 rfl a_r2_1
          have pg_154 := ge_5_4 hD hk_1 rfl a_r4_1
          refine W_led (fun hL0 => ?_)
          refine va_callq (va_runS (As := [.ref r4_1, .int z_151]) (rest := [.ref h0]) ⟨hx, hb, hml, hown, hts⟩ (m_J7_copyOf_59c91 l g H ws_24 r4_1 (n4_1) (z_151) none hG a_r4_1 f7_1 (by have e1 : (1 : Int32).toInt = 1 := (by decide); have e400 : (400 : Int32).toInt = 400 := (by decide); have q_z_151 := i_mulL (c := 2) (K := 1073741823) ez_151 (by decide) (by decide) (by decide) (by decide); have q_z_150 := i_len ez_150 f7_1; have q_f7_1 := f7_1; have q_f30_1 := f30_1; have q_f31_1 := f31_1; have q_ar_4 := ar_4; have q_z_29 := i_len ez_29 f7_1; have q_f28_1 := f28_1; have q_f29_1 := f29_1; have q_c_17 := i_nle c_17; have q_z_20 := i_addD ez_20; have q_c_149 := i_nlt c_149; have q_f_21 := f_21; have q_f_22 := f_22; have g_c5_1 := i_rg c5_1; have g_z_150 := i_rg z_150; have g_z_151 := i_rg z_151; have g_z_20 := i_rg z_20; have g_z_29 := i_rg z_29; omega) (by have e1 : (1 : Int32).toInt = 1 := (by decide); have e400 : (400 : Int32).toInt = 400 := (by decide); have q_z_151 := i_mulL (c := 2) (K := 1073741823) ez_151 (by decide) (by decide) (by decide) (by decide); have q_z_150 := i_len ez_150 f7_1; have q_f7_1 := f7_1; have q_f30_1 := f30_1; have q_f31_1 := f31_1; have q_ar_4 := ar_4; have q_z_29 := i_len ez_29 f7_1; have q_f28_1 := f28_1; have q_f29_1 := f29_1; have q_c_17 := i_nle c_17; have q_z_20 := i_addD ez_20; have q_c_149 := i_nlt c_149; have q_f_21 := f_21; have q_f_22 := f_22; have g_c5_1 := i_rg c5_1; have g_z_150 := i_rg z_150; have g_z_151 := i_rg z_151; have g_z_20 := i_rg z_20; have g_z_29 := i_rg z_29; omega) (by have e1 : (1 : Int32).toInt = 1 := (by decide); have e400 : (400 : Int32).toInt = 400 := (by decide); have q_f7_1 := f7_1; have q_f30_1 := f30_1; have q_f31_1 := f31_1; have q_ar_4 := ar_4; have q_z_29 := i_len ez_29 f7_1; have q_z_150 := i_len ez_150 f7_1; have q_z_151 := i_mulL (c := 2) (K := 1073741823) ez_151 (by decide) (by decide) (by decide) (by decide); have q_f28_1 := f28_1; have q_f29_1 := f29_1; have q_c_17 := i_nle c_17; have q_z_20 := i_addD ez_20; have q_c_149 := i_nlt c_149; have q_f_21 := f_21; have q_f_22 := f_22; have g_c5_1 := i_rg c5_1; have g_z_150 := i_rg z_150; have g_z_151 := i_rg z_151; have g_z_20 := i_rg z_20; have g_z_29 := i_rg z_29; omega)) (va_cwS 2 hts (gd_S kw_1097 kw_1745 kw_1723 kw_1744) rfl rfl rfl (by decide +kernel) ⟨Nat.le_of_ble_eq_true rfl, Nat.le_of_ble_eq_true rfl⟩) ⟨gblindH, fun U hU hW9 => gmkH hU hW9 hP hK hD hex hE hS hFc⟩ rfl rfl hl.1 rfl (lv_room (Nat.le_of_ble_eq_true rfl)) dX5_makeArray_72 ⟨(show 0 + (1) ≤ PC ws + (0) from (by have e0 : (0 : Int32).toInt = 0 := (by decide); have e1 : (1 : Int32).toInt = 1 := (by decide); have e400 : (400 : Int32).toInt = 400 := (by decide); have q_z_151 := i_mulL (c := 2) (K := 1073741823) ez_151 (by decide) (by decide) (by decide) (by decide); have q_z_150 := i_len ez_150 f7_1; have q_f7_1 := f7_1; have q_f30_1 := f30_1; have q_f31_1 := f31_1; have q_ar_4 := ar_4; have q_z_29 := i_len ez_29 f7_1; have q_f28_1 := f28_1; have q_f29_1 := f29_1; have q_c_17 := i_nle c_17; have q_z_20 := i_addD ez_20; have q_c_149 := i_nlt c_149; have q_f_21 := f_21; have q_f_22 := f_22; have g_c5_1 := i_rg c5_1; have g_z_150 := i_rg z_150; have g_z_151 := i_rg z_151; have g_z_20 := i_rg z_20; have g_z_29 := i_rg z_29; omega)), (show 0 + (z_151.toInt.toNat) ≤ PS ws + (0) from (by have e0 : (0 : Int32).toInt = 0 := (by decide); have e1 : (1 : Int32).toInt = 1 := (by decide); have e400 : (400 : Int32).toInt = 400 := (by decide); have q_z_151 := i_mulL (c := 2) (K := 1073741823) ez_151 (by decide) (by decide) (by decide) (by decide); have q_z_150 := i_len ez_150 f7_1; have q_f7_1 := f7_1; have q_f30_1 := f30_1; have q_f31_1 := f31_1; have q_ar_4 := ar_4; have q_z_29 := i_len ez_29 f7_1; have q_f28_1 := f28_1; have q_f29_1 := f29_1; have q_c_17 := i_nle c_17; have q_z_20 := i_addD ez_20; have q_c_149 := i_nlt c_149; have q_f_21 := f_21; have q_f_22 := f_22; have g_c5_1 := i_rg c5_1; have g_z_150 := i_rg z_150; have g_z_151 := i_rg z_151; have g_z_20 := i_rg z_20; have g_z_29 := i_rg z_29; omega))⟩) hS (fun q _ h => hFc q h) hFc (fun r_155 ws_156 t9 H1 locs ht9 hvm9 hw9 hB9 hz9 hk9 hS => ?_)
          obtain ⟨E_157, Fr_158, hG, hP1, hD1, dc_159, ds_160, hLd, hdc_159, hds_160⟩ := hB9
          rw [ht9] at hLd
          refine W_tight (hL0.tr hLd).1 (hL0.tr hLd).2.1 ?_
          clear hL0 hLd
          have hP : va_P (gD g) cl0 ws_156 H1 := by rw [← ht9]; exact hP1
          have hD : va_D A ws_156 := hD1.weaken (fun _ _ _ h => hFc _ h)
          have o_r_155 := hw9
          clear hP1 hD1 hz9 hk9 hvm9 ht9 hw9
          generalize H1 = H at hP hS ⊢
          have aa_161 := a_r1_1
          have aa_162 := a_r2_1
          have aa_163 := a_r4_1
          have aa_164 := a_r6_1
          have aa_165 := a_r8_1
          have aa_166 := a_r9_1
          have aa_167 := a_r10_1
          have o_h0 := E_157.1 _ _ o_h0
          obtain ⟨b_168, n_169, rfl, a_b_168, s_b_168, fr_b_168, h_b_168⟩ := o_r_155
          obtain ⟨fs9, hk_170, hq_170⟩ := ((gF.a (F' := []) Fr_158 (fun _ h => h))) _ _ _ hk_1
          obtain ⟨v0_170, r1_170, n1_170, r2_170, n2_170, c3_170, r4_170, n4_170, c5_170, r6_170, n6_170, c7_170, r8_170, n8_170, r9_170, n9_170, r10_170, n10_170, c11_170, v12_170, c13_170, c14_170, c15_170, l16_170, c17_170, c18_170, c19_170, rfl, o_v0_170, F_v0_170, a_r1_170, f3_170, a_r2_170, f5_170, a_r4_170, f7_170, a_r6_170, f9_170, a_r8_170, f11_170, a_r9_170, f13_170, a_r10_170, f15_170, o_v12_170, f17_170, f18_170, f19_170, f20_170, f21_170, f22_170, f23_170, f24_170, f25_170, f26_170, f27_170, f28_170, f29_170, f30_170, f31_170, -⟩ := (hG.1 _ _ _ _ hk_170).hX5 rfl
          have hn9 := fe_qr (hq_170 0 (by decide))
          subst hn9
          have o_b_2 := o_v0_170 _ rfl
          have F_b_2 := F_v0_170 _ rfl
          obtain rfl := fe_r (hq_170 2 (by decide))
          have hn9 := gI_n hD ((E_157).1 _ _ aa_162) a_r2_170
          subst hn9
          have a_r2_1 := a_r2_170
          obtain rfl := fe_i (hq_170 3 (by decide))
          obtain rfl := fe_r (hq_170 4 (by decide))
          have hn9 := gI_n hD ((E_157).1 _ _ aa_163) a_r4_170
          subst hn9
          have a_r4_1 := a_r4_170
          obtain rfl := fe_i (hq_170 5 (by decide))
          have hn9 := fe_qr (hq_170 12 (by decide))
          subst hn9
          have o_b_3 := o_v12_170 _ rfl
          obtain rfl := fe_i (hq_170 13 (by decide))
          have hV9 : okv ws_156 5 4 (.ref b_168) := (okv_a a_b_168 fr_b_168)
          have hD8 := hD
          refine va_put (D := gD g) (ci := 5) (v := .ref b_168) (ty := (.array .int)) (C := RX5) (T := TX5) (N := 20) hx hb hts inX5 tyX5 tyX5_ok nmX5 hown hK hP hD hS k_1 hk_170 rfl 4 (by decide) (hts _ kw_1010) (fun _ h9 => h9) rfl (by decide +kernel) rfl rfl (Nat.le_of_ble_eq_true rfl) dX5_makeArray_75 (fun H locs hP hD hS => ?_)
          have f_171 : 1 ≤ n_169 := (by have e1 : (1 : Int32).toInt = 1 := (by decide); have e400 : (400 : Int32).toInt = 400 := (by decide); have q_s_b_168 := s_b_168; have q_b_168 := h_b_168; have q_z_151 := i_mulL (c := 2) (K := 1073741823) ez_151 (by decide) (by decide) (by decide) (by decide); have q_z_150 := i_len ez_150 f7_1; have q_f7_1 := f7_1; have q_f30_1 := f30_1; have q_f31_1 := f31_1; have q_ar_4 := ar_4; have q_z_29 := i_len ez_29 f7_1; have q_f28_1 := f28_1; have q_f29_1 := f29_1; have q_c_17 := i_nle c_17; have q_z_20 := i_addD ez_20; have q_c_149 := i_nlt c_149; have q_f_21 := f_21; have q_f_22 := f_22; have g_c5_1 := i_rg c5_1; have g_z_150 := i_rg z_150; have g_z_151 := i_rg z_151; have g_z_20 := i_rg z_20; have g_z_29 := i_rg z_29; omega)
          have f_172 : n_169 ≤ 1024 := (by have e1 : (1 : Int32).toInt = 1 := (by decide); have e400 : (400 : Int32).toInt = 400 := (by decide); have q_s_b_168 := s_b_168; have q_b_168 := h_b_168; have q_f_171 := f_171; have q_z_151 := i_mulL (c := 2) (K := 1073741823) ez_151 (by decide) (by decide) (by decide) (by decide); have q_z_150 := i_len ez_150 f7_1; have q_f7_1 := f7_1; have q_f30_1 := f30_1; have q_f31_1 := f31_1; have q_ar_4 := ar_4; have q_z_29 := i_len ez_29 f7_1; have q_f28_1 := f28_1; have q_f29_1 := f29_1; have q_c_17 := i_nle c_17; have q_z_20 := i_addD ez_20; have q_c_149 := i_nlt c_149; have q_f_21 := f_21; have q_f_22 := f_22; have g_c5_1 := i_rg c5_1; have g_z_150 := i_rg z_150; have g_z_151 := i_rg z_151; have g_z_20 := i_rg z_20; have g_z_29 := i_rg z_29; omega)
          have hi_173 : invX5 g ws_156 h0 [.ref b_2, .ref r1_170, .ref r2_1, .int c3_1, .ref b_168, .int z_20, .ref r6_170, .int c7_170, .ref r8_170, .ref r9_170, .ref r10_170, .int c11_170, .ref b_3, .int c13_1, .int c14_170, .int c15_170, .long l16_170, .int c17_170, .int c18_170, .int c19_170] := ⟨(some b_2), r1_170, (n1_170), r2_1, (n2_1), (c3_1), b_168, (n_169), (z_20), r6_170, (n6_170), (c7_170), r8_170, (n8_170), r9_170, (n9_170), r10_170, (n10_170), (c11_170), (some b_3), (c13_1), (c14_170), (c15_170), (l16_170), (c17_170), (c18_170), (c19_170), rfl, (fun b h9 => by cases h9; exact o_b_2), (fun b h9 => by cases h9; exact F_b_2), a_r1_170, f3_170, a_r2_1, f5_170, a_b_168, s_b_168, a_r6_170, f9_170, a_r8_170, f11_170, a_r9_170, f13_170, a_r10_170, f15_170, (fun b h9 => by cases h9; exact o_b_3), f17_170, f18_170, f19_170, f20_170, f21_170, f22_170, f23_170, f24_170, f25_170, f26_170, f27_170, f28_170, f29_170, f_171, f_172, trivial⟩
          obtain ⟨ws_175, e_ws_175⟩ : ∃ z, z = ws_156.set k_1 (h0, .inr (5, [.ref b_2, .ref r1_170, .ref r2_1, .int c3_1, .ref b_168, .int z_20, .ref r6_170, .int c7_170, .ref r8_170, .ref r9_170, .ref r10_170, .int c11_170, .ref b_3, .int c13_1, .int c14_170, .int c15_170, .long l16_170, .int c17_170, .int c18_170, .int c19_170])) := ⟨_, rfl⟩
          have hP : va_P (gD g) cl0 ws_175 H := by rw [e_ws_175]; exact hP
          have hD : va_D A ws_175 := by rw [e_ws_175]; exact hD
          have E_176 : gE ws_156 ws_175 := gE_set e_ws_175 hk_170 (cw_o (fi := 4) (v := .ref b_168) rfl (by decide))
          have hG : Good g ws_175 := Good_set (fi := 4) (v := .ref b_168) e_ws_175 hk_170 E_176 rfl hV9 hG (ivX5 hi_173)
          have Fr_177 : gF [(5, 4)] [] (some h0) ws_156 ws_175 := gF_put0 (fi := 4) (v := .ref b_168) e_ws_175 hk_170 rfl (gr_5_4 hD8 hk_170 rfl a_r4_1 e_ws_175 rfl a_b_168 (by have e1 : (1 : Int32).toInt = 1 := (by decide); have e400 : (400 : Int32).toInt = 400 := (by decide); have q_f7_1 := f7_1; have q_f30_1 := f30_1; have q_f31_1 := f31_1; have q_ar_4 := ar_4; have q_z_29 := i_len ez_29 f7_1; have q_z_150 := i_len ez_150 f7_1; have q_s_b_168 := s_b_168; have q_b_168 := h_b_168; have q_f_171 := f_171; have q_f_172 := f_172; have q_f28_1 := f28_1; have q_f29_1 := f29_1; have q_c_17 := i_nle c_17; have q_z_20 := i_addD ez_20; have q_c_149 := i_nlt c_149; have q_z_151 := i_mulL (c := 2) (K := 1073741823) ez_151 (by decide) (by decide) (by decide) (by decide); have q_f_21 := f_21; have q_f_22 := f_22; have g_c5_1 := i_rg c5_1; have g_z_150 := i_rg z_150; have g_z_151 := i_rg z_151; have g_z_20 := i_rg z_20; have g_z_29 := i_rg z_29; omega)).1
          have pg_174 := (gr_5_4 (ws := ws_156) hD8 hk_170 rfl a_r4_1 e_ws_175 rfl a_b_168 (by have e1 : (1 : Int32).toInt = 1 := (by decide); have e400 : (400 : Int32).toInt = 400 := (by decide); have q_f7_1 := f7_1; have q_f30_1 := f30_1; have q_f31_1 := f31_1; have q_ar_4 := ar_4; have q_z_29 := i_len ez_29 f7_1; have q_z_150 := i_len ez_150 f7_1; have q_s_b_168 := s_b_168; have q_b_168 := h_b_168; have q_f_171 := f_171; have q_f_172 := f_172; have q_f28_1 := f28_1; have q_f29_1 := f29_1; have q_c_17 := i_nle c_17; have q_z_20 := i_addD ez_20; have q_c_149 := i_nlt c_149; have q_z_151 := i_mulL (c := 2) (K := 1073741823) ez_151 (by decide) (by decide) (by decide) (by decide); have q_f_21 := f_21; have q_f_22 := f_22; have g_c5_1 := i_rg c5_1; have g_z_150 := i_rg z_150; have g_z_151 := i_rg z_151; have g_z_20 := i_rg z_20; have g_z_29 := i_rg z_29; omega)).2
          have hkN := gset_self e_ws_175 hk_170
          have hk_170 := hkN
          have o_h0 := E_176.1 _ _ o_h0
          have a_b_168 := E_176.1 _ _ a_b_168
          have a_r1_170 := E_176.1 _ _ a_r1_170
          have a_r6_170 := E_176.1 _ _ a_r6_170
          have a_r8_170 := E_176.1 _ _ a_r8_170
          have a_r9_170 := E_176.1 _ _ a_r9_170
          have a_r10_170 := E_176.1 _ _ a_r10_170
          have o_b_2 := E_176.1 _ _ o_b_2
          have F_b_2 := F_b_2.mo E_176
          have a_r2_1 := E_176.1 _ _ a_r2_1
          have o_b_3 := E_176.1 _ _ o_b_3
          exact J_78 (0 + dc_159) (0 + ds_160) ws_175 H locs ls ((E_157.tr E_176)) ((gF.tr (gF.mo (F' := [(5, 4)]) (C' := []) (S' := none) Fr_158 (fun _ h => absurd h List.not_mem_nil) (fun _ h => h) (Or.inr rfl)) (gF.mo (F' := [(5, 4)]) (C' := []) (S' := none) Fr_177 (fun _ h => h) (fun _ h => h) (Or.inl rfl)))) hG (by have e1 : (1 : Int32).toInt = 1 := (by decide); have e400 : (400 : Int32).toInt = 400 := (by decide); have q_f7_1 := f7_1; have q_f30_1 := f30_1; have q_f31_1 := f31_1; have q_ar_4 := ar_4; have q_z_29 := i_len ez_29 f7_1; have q_z_150 := i_len ez_150 f7_1; have q_z_151 := i_mulL (c := 2) (K := 1073741823) ez_151 (by decide) (by decide) (by decide) (by decide); have q_s_b_168 := s_b_168; have q_b_168 := h_b_168; have q_f_171 := f_171; have q_f_172 := f_172; have q_f28_1 := f28_1; have q_f29_1 := f29_1; have q_c_17 := i_nle c_17; have q_z_20 := i_addD ez_20; have q_c_149 := i_nlt c_149; have q_f_21 := f_21; have q_f_22 := f_22; have g_c5_1 := i_rg c5_1; have g_z_150 := i_rg z_150; have g_z_151 := i_rg z_151; have g_z_20 := i_rg z_20; have g_z_29 := i_rg z_29; omega) (by have e1 : (1 : Int32).toInt = 1 := (by decide); have e400 : (400 : Int32).toInt = 400 := (by decide); have q_f7_1 := f7_1; have q_f30_1 := f30_1; have q_f31_1 := f31_1; have q_ar_4 := ar_4; have q_z_29 := i_len ez_29 f7_1; have q_z_150 := i_len ez_150 f7_1; have q_z_151 := i_mulL (c := 2) (K := 1073741823) ez_151 (by decide) (by decide) (by decide) (by decide); have q_s_b_168 := s_b_168; have q_b_168 := h_b_168; have q_f_171 := f_171; have q_f_172 := f_172; have q_f28_1 := f28_1; have q_f29_1 := f29_1; have q_c_17 := i_nle c_17; have q_z_20 := i_addD ez_20; have q_c_149 := i_nlt c_149; have q_f_21 := f_21; have q_f_22 := f_22; have g_c5_1 := i_rg c5_1; have g_z_150 := i_rg z_150; have g_z_151 := i_rg z_151; have g_z_20 := i_rg z_20; have g_z_29 := i_rg z_29; omega) (gP_of hD hk_170 (fun q90 e90 p91 q91 e91 g91 => by cases e90; cases e91; have z91 := gI_n hD a_b_168 g91; subst z91; exact (by have e1 : (1 : Int32).toInt = 1 := (by decide); have e400 : (400 : Int32).toInt = 400 := (by decide); have q_z_20 := i_addD ez_20; have q_f_21 := f_21; have q_f_22 := f_22; have q_c_149 := i_nlt c_149; have q_s_b_168 := s_b_168; have q_b_168 := h_b_168; have q_f_171 := f_171; have q_f_172 := f_172; have q_f28_1 := f28_1; have q_f29_1 := f29_1; have q_ar_4 := ar_4; have q_c_17 := i_nle c_17; have q_z_29 := i_len ez_29 f7_1; have q_z_151 := i_mulL (c := 2) (K := 1073741823) ez_151 (by decide) (by decide) (by decide) (by decide); have q_f7_1 := f7_1; have q_f30_1 := f30_1; have q_f31_1 := f31_1; have q_z_150 := i_len ez_150 f7_1; have g_c5_1 := i_rg c5_1; have g_z_150 := i_rg z_150; have g_z_151 := i_rg z_151; have g_z_20 := i_rg z_20; have g_z_29 := i_rg z_29; omega))) hP hD hS (lv_sub hl [0, 1] rfl)
      · exact J_32 (0) (0) _ _ ls (by have e0 : (0 : Int32).toInt = 0 := (by decide); omega) (by have e0 : (0 : Int32).toInt = 0 := (by decide); omega) hP hD hS (lv_sub hl [0] rfl)
  · refine lv_aload_n hx hb dX5_makeArray_4 rfl (lv_at hl 0 rfl) ?_
    refine lv_iconst (v := 3) hx hb dX5_makeArray_5 (by decide) ?_
    have hFc := gfree hD hS hA
    refine va_callv (va_runV (As := [.int 3]) (rest := []) ⟨hx, hb, hml, hown, hts⟩ (m_X5_raise l g s.heap.size ws h0 (3) hG o_h0 (gN_of hD hk_1 (j := 0) rfl) (gN_of hD hk_1 (j := 12) rfl) tk0 tk1 tk2 tk3) (cwV 1 hts (gd_V kw_1017 kw_1136 kw_1137 kw_398 kw_1135) rfl rfl rfl (by decide +kernel) ⟨Nat.le_of_ble_eq_true rfl, Nat.le_of_ble_eq_true rfl⟩) ⟨gblind, va_recv hK hP (ci := 5) (q0 := k_1) rfl hk_1, fun U hU hW9 => gmk hU hW9 hP hK hD hex hE hS hFc⟩ rfl rfl hl.1 rfl (lv_room (Nat.le_of_ble_eq_true rfl)) dX5_makeArray_6 ⟨(show 0 + 0 ≤ PC ws + (0) from (by have e0 : (0 : Int32).toInt = 0 := (by decide); omega)), (show 0 + 0 ≤ PS ws + (0) from (by have e0 : (0 : Int32).toInt = 0 := (by decide); omega))⟩) hS (fun q _ h => hFc q h) hFc (fun  ws_178 t9 H1 locs ht9 hvm9 hw9 hB9 hz9 hk9 hS => ?_)
    obtain ⟨E_179, Fr_180, hG, hP1, hD1⟩ := hB9
    have hP : va_P (gD g) cl0 ws_178 H1 := by rw [← ht9]; exact hP1
    have hD : va_D A ws_178 := hD1.weaken (fun _ _ _ h => hFc _ h)
    obtain ⟨hw9, xp_183, xp_184, xp_185, xp_186, xp_187, xp_188⟩ := hw9
    clear hP1 hD1 hz9 hk9 hvm9 ht9 hw9
    generalize H1 = H at hP hS ⊢
    have aa_189 := a_r1_1
    have aa_190 := a_r2_1
    have aa_191 := a_r4_1
    have aa_192 := a_r6_1
    have aa_193 := a_r8_1
    have aa_194 := a_r9_1
    have aa_195 := a_r10_1
    have o_h0 := E_179.1 _ _ o_h0
    have pp_196 := Fr_180.pp
    obtain ⟨fs9, hk_197, hq_197⟩ := ((gF.a (F' := [(5, 11), (5, 12), (5, 13), (5, 14), (5, 15), (5, 17), (5, 19)]) Fr_180 (fun _ h => h))) _ _ _ hk_1
    obtain ⟨v0_197, r1_197, n1_197, r2_197, n2_197, c3_197, r4_197, n4_197, c5_197, r6_197, n6_197, c7_197, r8_197, n8_197, r9_197, n9_197, r10_197, n10_197, c11_197, v12_197, c13_197, c14_197, c15_197, l16_197, c17_197, c18_197, c19_197, rfl, o_v0_197, F_v0_197, a_r1_197, f3_197, a_r2_197, f5_197, a_r4_197, f7_197, a_r6_197, f9_197, a_r8_197, f11_197, a_r9_197, f13_197, a_r10_197, f15_197, o_v12_197, f17_197, f18_197, f19_197, f20_197, f21_197, f22_197, f23_197, f24_197, f25_197, f26_197, f27_197, f28_197, f29_197, f30_197, f31_197, -⟩ := (hG.1 _ _ _ _ hk_197).hX5 rfl
    have hn9 := fe_qr (hq_197 0 (by decide))
    subst hn9
    have o_b_2 := o_v0_197 _ rfl
    have F_b_2 := F_v0_197 _ rfl
    obtain rfl := fe_r (hq_197 2 (by decide))
    have hn9 := gI_n hD ((E_179).1 _ _ aa_190) a_r2_197
    subst hn9
    have a_r2_1 := a_r2_197
    obtain rfl := fe_i (hq_197 3 (by decide))
    obtain rfl := fe_r (hq_197 4 (by decide))
    have hn9 := gI_n hD ((E_179).1 _ _ aa_191) a_r4_197
    subst hn9
    have a_r4_1 := a_r4_197
    obtain rfl := fe_i (hq_197 5 (by decide))
    obtain ⟨b_198, hn9⟩ := xp_184 _ _ _ hk_197
    have hn9 := fe_qr hn9
    subst hn9
    have o_b_198 := o_v12_197 _ rfl
    refine W_led (fun hLd => ?_)
    have hcl : 0 + PC ws_178 ≤ PC ws + (0) := (by have e0 : (0 : Int32).toInt = 0 := (by decide); omega)
    have hsl : 0 + PS ws_178 ≤ PS ws + (0) := (by have e0 : (0 : Int32).toInt = 0 := (by decide); omega)
    refine W.widen (k := PC ws + (0)) (n := PS ws + (0)) (by omega) (by omega) ?_
    exact W.vret hx hb hr (fun t9 ht9 hW9 => ⟨⟨ws_178, rfl, ⟨trivial, (gN_of hD hk_197 (j := 0) rfl), (gN_of hD hk_197 (j := 12) rfl), xp_185, xp_186, xp_187, xp_188⟩, ⟨E_179, (gF.mo (F' := [(5, 2), (5, 3), (5, 4), (5, 5), (5, 11), (5, 12), (5, 13), (5, 14), (5, 15), (5, 17), (5, 19)]) (C' := [(5, 2), (5, 4), (5, 9)]) (S' := none) Fr_180 (by decide) (by decide) (Or.inr rfl)), hG, by rw [ht9]; exact hP, hD, _, _, by rw [ht9]; exact hLd, hcl, hsl⟩⟩, hS.F ht9⟩) hS.2.2 dX5_makeArray_9
