set_option maxHeartbeats 1000000 in
set_option maxRecDepth 100000 in
theorem m_X5_leave (l : Launch) (g : Gm) (sz : Nat) (ws : va_W) (h0 : Nat) (x1 : Int32) (hG : Good g ws) (o_h0 : gC ws h0 5) (nn_h0_0 : gN ws h0 0) (nn_h0_12 : gN ws h0 12) (tk0 : frP g ws h0) (tk1 : swU ws h0) (tk2 : swC ws h0) (tk3 : arP g ws h0) : Met l yX5_leave (wt yX5_leave cX5_leave 5 none) ({ frames := 2, cells := 0, slots := 0, locals := 46 }) (va_Pc [.ref h0, .int x1] (st_G g sz ws)) (va_Qv (fun (u9 : va_W) => (True) ∧ (gN u9 h0 0) ∧ (gN u9 h0 12) ∧ (frP g u9 h0) ∧ (swU u9 h0) ∧ (swC u9 h0) ∧ (arP g u9 h0)) (gQ1 g [(5, 11), (5, 12), (5, 13), (5, 14), (5, 15), (5, 16), (5, 19)] [(5, 9)] none (va_A ws sz) ws) (va_A ws sz)) (0) (0) (va_A ws sz) := by
  refine Met.ofW (cc := cX5_leave) (maxL := 5) (ret := none) (by decide) rfl ?_
  intro p e s m args below meth c s₁ B hml hv
  obtain ⟨rfl, hsz, hP, hK, hD0, hex, hE⟩ := hv
  have hx := B.exec
  have hb := B.bytes
  have hr := B.returns
  have hts0 := atoms_spec (ws := wt yX5_leave cX5_leave 5 none) B.pre
  have hts : ∀ w ∈ tb, w.before _ s = true := fun w h => hts0 w (List.mem_cons_of_mem _ h)
  have hown : s.vm.findClass RX5 = some m.cls := findClass_of_methodNamed B.named
  subst hsz
  have hD := hD0.self (sz := s.heap.size)
  generalize hAe : va_A ws s.heap.size = A at hD hE ⊢
  have hA : ∀ q : Nat, s.heap.size ≤ q → A q := fun q h => by rw [← hAe]; exact Or.inr h
  have hS : va_S A s.heap s.heap [] := va_S.rf
  have hl := lv_entry ([.ref h0, .int x1]) (n := 5) (Nat.le_of_ble_eq_true rfl)
  rw [lg_entry_eq]
  generalize (lg_sl ([.ref h0, .int x1]) ++ List.replicate (5 - (lg_sl ([.ref h0, .int x1])).length) Slot.unset).toArray = ls at hl ⊢
  have hl : lv_has ls 5 [(0, .ref h0), (1, .int x1)] := hl
  obtain ⟨k_1, fs9, hk_1⟩ := gC_of o_h0
  obtain ⟨v0_1, r1_1, n1_1, r2_1, n2_1, c3_1, r4_1, n4_1, c5_1, r6_1, n6_1, c7_1, r8_1, n8_1, r9_1, n9_1, r10_1, n10_1, c11_1, v12_1, c13_1, c14_1, c15_1, l16_1, c17_1, c18_1, c19_1, rfl, o_v0_1, F_v0_1, a_r1_1, f3_1, a_r2_1, f5_1, a_r4_1, f7_1, a_r6_1, f9_1, a_r8_1, f11_1, a_r9_1, f13_1, a_r10_1, f15_1, o_v12_1, f17_1, f18_1, f19_1, f20_1, f21_1, f22_1, f23_1, f24_1, f25_1, f26_1, f27_1, f28_1, f29_1, f30_1, f31_1, -⟩ := (hG.1 _ _ _ _ hk_1).hX5 rfl
  obtain ⟨b_2, hn9⟩ := nn_h0_0 _ _ _ hk_1
  have hn9 := fe_qr hn9
  subst hn9
  have o_b_2 := o_v0_1 _ rfl
  have F_b_2 := F_v0_1 _ rfl
  obtain ⟨b_3, hn9⟩ := nn_h0_12 _ _ _ hk_1
  have hn9 := fe_qr hn9
  subst hn9
  have o_b_3 := o_v12_1 _ rfl
  refine lv_iload_n hx hb dX5_leave_0 rfl (lv_at hl 1 rfl) ?_
  have hFc := gfree hD hS hA
  refine va_calli (va_runS (As := [.int x1]) (rest := []) ⟨hx, hb, hml, hown, hts⟩ (m_X6_takes l g s.heap.size ws (x1) hG ) (va_cwS 1 hts (gd_S kw_1014 kw_1255 kw_1207 kw_1254) rfl rfl rfl (by decide +kernel) ⟨Nat.le_of_ble_eq_true rfl, Nat.le_of_ble_eq_true rfl⟩) ⟨gblind, fun U hU hW9 => gmk hU hW9 hP hK hD hex hE hS hFc⟩ rfl rfl hl.1 rfl (lv_room (Nat.le_of_ble_eq_true rfl)) dX5_leave_1 ⟨Nat.le_of_ble_eq_true rfl, Nat.le_of_ble_eq_true rfl⟩) hS (fun q _ h => hFc q h) hFc (fun r_4 u9 t9 H1 locs ht9 hvm9 hw9 hB9 hz9 hk9 hS => ?_)
  have hP : va_P (gD g) cl0 ws H1 := by rw [← ht9]; exact hB9.1
  clear hB9 hz9 hk9 hvm9 ht9 hw9
  generalize H1 = H at hP hS ⊢
  refine lv_istore_n (lv' := [(2, .int r_4), (0, .ref h0), (1, .int x1)]) hx hb dX5_leave_4 rfl hl (by decide) rfl (fun ls hl => ?_)
  refine lv_aload_n hx hb dX5_leave_5 rfl (lv_at hl 1 rfl) ?_
  refine lv_iload_n hx hb dX5_leave_6 rfl (lv_at hl 0 rfl) ?_
  have hFc := gfree hD hS hA
  refine va_calll (va_runV (As := [.int r_4]) (rest := []) ⟨hx, hb, hml, hown, hts⟩ (m_X5_pop_ l g H.size ws h0 (r_4) hG o_h0) (cwV 1 hts (gd_V kw_1015 kw_1127 kw_1128 kw_398 kw_1126) rfl rfl rfl (by decide +kernel) ⟨Nat.le_of_ble_eq_true rfl, Nat.le_of_ble_eq_true rfl⟩) ⟨gblind, va_recv hK hP (ci := 5) (q0 := k_1) rfl hk_1, fun U hU hW9 => gmk hU hW9 hP hK hD hex hE hS hFc⟩ rfl rfl hl.1 rfl (lv_room (Nat.le_of_ble_eq_true rfl)) dX5_leave_7 ⟨Nat.le_of_ble_eq_true rfl, Nat.le_of_ble_eq_true rfl⟩) hS (fun q _ h => hFc q h) hFc (fun r_5 ws_6 t9 H1 locs ht9 hvm9 hw9 hB9 hz9 hk9 hS => ?_)
  obtain ⟨E_7, Fr_8, hG, hP1, hD1⟩ := hB9
  have hP : va_P (gD g) cl0 ws_6 H1 := by rw [← ht9]; exact hP1
  have hD : va_D A ws_6 := hD1.weaken (fun _ _ _ h => hFc _ h)
  clear hP1 hD1 hz9 hk9 hvm9 ht9 hw9
  generalize H1 = H at hP hS ⊢
  have aa_11 := a_r1_1
  have aa_12 := a_r2_1
  have aa_13 := a_r4_1
  have aa_14 := a_r6_1
  have aa_15 := a_r8_1
  have aa_16 := a_r9_1
  have aa_17 := a_r10_1
  have o_h0 := E_7.1 _ _ o_h0
  refine lv_lstore_n (lv' := [(3, .long r_5), (2, .int r_4), (0, .ref h0), (1, .int x1)]) hx hb dX5_leave_10 rfl hl (by decide) rfl (fun ls hl => ?_)
  refine lv_aload_n hx hb dX5_leave_11 rfl (lv_at hl 2 rfl) ?_
  obtain ⟨fs9, hk_18, hq_18⟩ := ((gF.a (F' := [(5, 14), (5, 19)]) Fr_8 (fun _ h => h))) _ _ _ hk_1
  obtain ⟨v0_18, r1_18, n1_18, r2_18, n2_18, c3_18, r4_18, n4_18, c5_18, r6_18, n6_18, c7_18, r8_18, n8_18, r9_18, n9_18, r10_18, n10_18, c11_18, v12_18, c13_18, c14_18, c15_18, l16_18, c17_18, c18_18, c19_18, rfl, o_v0_18, F_v0_18, a_r1_18, f3_18, a_r2_18, f5_18, a_r4_18, f7_18, a_r6_18, f9_18, a_r8_18, f11_18, a_r9_18, f13_18, a_r10_18, f15_18, o_v12_18, f17_18, f18_18, f19_18, f20_18, f21_18, f22_18, f23_18, f24_18, f25_18, f26_18, f27_18, f28_18, f29_18, f30_18, f31_18, -⟩ := (hG.1 _ _ _ _ hk_18).hX5 rfl
  have hn9 := fe_qr (hq_18 0 (by decide))
  subst hn9
  have o_b_2 := o_v0_18 _ rfl
  have F_b_2 := F_v0_18 _ rfl
  obtain rfl := fe_i (hq_18 11 (by decide))
  have hn9 := fe_qr (hq_18 12 (by decide))
  subst hn9
  have o_b_3 := o_v12_18 _ rfl
  obtain rfl := fe_i (hq_18 13 (by decide))
  refine va_get (D := gD g) (ci := 5) (v := .int c11_1) (C := RX5) (T := TX5) (N := 20) hx hb hts inX5 hown hK hP k_1 hk_18 rfl 11 (by decide) (hts _ kw_1025) (fun _ h9 => h9) rfl dX5_leave_12 ?_
  refine lv_if_ne (tgt := 29) hx hb dX5_leave_15 (by decide) (fun c_19 => ?_) (fun c_19 => ?_)
  · refine lv_aload_n hx hb dX5_leave_29 rfl (lv_at hl 2 rfl) ?_
    have tq_20 : frP g ws_6 h0 := frP_mo (Fr_8) (by decide) (by decide) (by decide) (by decide) (by decide) tk0
    have tq_21 : swU ws_6 h0 := swU_mo (Fr_8) (by decide) (by decide) (by decide) (by decide) (by decide) (by decide) (by decide) (by decide) (by decide) (by decide) (by decide) tk1
    have hFc := gfree hD hS hA
    refine va_callv (va_runV (As := []) (rest := []) ⟨hx, hb, hml, hown, hts⟩ (m_X5_closeFrame l g H.size ws_6 h0 hG o_h0 (gN_of hD hk_18 (j := 0) rfl) tq_20 tq_21) (cwV 0 hts (gd_V kw_1086 kw_1023 kw_1024 kw_398 kw_1022) rfl rfl rfl (by decide +kernel) ⟨Nat.le_of_ble_eq_true rfl, Nat.le_of_ble_eq_true rfl⟩) ⟨gblind, va_recv hK hP (ci := 5) (q0 := k_1) rfl hk_18, fun U hU hW9 => gmk hU hW9 hP hK hD hex hE hS hFc⟩ rfl rfl hl.1 rfl (lv_room (Nat.le_of_ble_eq_true rfl)) dX5_leave_30 ⟨Nat.le_of_ble_eq_true rfl, Nat.le_of_ble_eq_true rfl⟩) hS (fun q _ h => hFc q h) hFc (fun  ws_22 t9 H1 locs ht9 hvm9 hw9 hB9 hz9 hk9 hS => ?_)
    obtain ⟨E_23, Fr_24, hG, hP1, hD1⟩ := hB9
    have hP : va_P (gD g) cl0 ws_22 H1 := by rw [← ht9]; exact hP1
    have hD : va_D A ws_22 := hD1.weaken (fun _ _ _ h => hFc _ h)
    obtain ⟨hw9, xp_27, xp_28, xp_29, xp_30, xp_31⟩ := hw9
    clear hP1 hD1 hz9 hk9 hvm9 ht9 hw9
    generalize H1 = H at hP hS ⊢
    have aa_32 := a_r1_18
    have aa_33 := a_r2_18
    have aa_34 := a_r4_18
    have aa_35 := a_r6_18
    have aa_36 := a_r8_18
    have aa_37 := a_r9_18
    have aa_38 := a_r10_18
    have o_h0 := E_23.1 _ _ o_h0
    obtain ⟨fs9, hk_39, hq_39⟩ := ((gF.a (F' := [(5, 11), (5, 12), (5, 13), (5, 14)]) Fr_24 (fun _ h => h))) _ _ _ hk_18
    obtain ⟨v0_39, r1_39, n1_39, r2_39, n2_39, c3_39, r4_39, n4_39, c5_39, r6_39, n6_39, c7_39, r8_39, n8_39, r9_39, n9_39, r10_39, n10_39, c11_39, v12_39, c13_39, c14_39, c15_39, l16_39, c17_39, c18_39, c19_39, rfl, o_v0_39, F_v0_39, a_r1_39, f3_39, a_r2_39, f5_39, a_r4_39, f7_39, a_r6_39, f9_39, a_r8_39, f11_39, a_r9_39, f13_39, a_r10_39, f15_39, o_v12_39, f17_39, f18_39, f19_39, f20_39, f21_39, f22_39, f23_39, f24_39, f25_39, f26_39, f27_39, f28_39, f29_39, f30_39, f31_39, -⟩ := (hG.1 _ _ _ _ hk_39).hX5 rfl
    have hn9 := fe_qr (hq_39 0 (by decide))
    subst hn9
    have o_b_2 := o_v0_39 _ rfl
    have F_b_2 := F_v0_39 _ rfl
    obtain ⟨b_40, hn9⟩ := xp_28 _ _ _ hk_39
    have hn9 := fe_qr hn9
    subst hn9
    have o_b_40 := o_v12_39 _ rfl
    refine lv_aload_n hx hb dX5_leave_33 rfl (lv_at hl 2 rfl) ?_
    refine lv_iload_n hx hb dX5_leave_34 rfl (lv_at hl 1 rfl) ?_
    refine lv_lload_n hx hb dX5_leave_35 rfl (lv_at hl 0 rfl) ?_
    have hFc := gfree hD hS hA
    refine va_callv (va_runV (As := [.int r_4, .long r_5]) (rest := []) ⟨hx, hb, hml, hown, hts⟩ (m_X5_push_ l g H.size ws_22 h0 (r_4) (r_5) hG o_h0) (cwV 2 hts (gd_V kw_1020 kw_1133 kw_1134 kw_398 kw_1132) rfl rfl rfl (by decide +kernel) ⟨Nat.le_of_ble_eq_true rfl, Nat.le_of_ble_eq_true rfl⟩) ⟨gblind, va_recv hK hP (ci := 5) (q0 := k_1) rfl hk_39, fun U hU hW9 => gmk hU hW9 hP hK hD hex hE hS hFc⟩ rfl rfl hl.1 rfl (lv_room (Nat.le_of_ble_eq_true rfl)) dX5_leave_36 ⟨Nat.le_of_ble_eq_true rfl, Nat.le_of_ble_eq_true rfl⟩) hS (fun q _ h => hFc q h) hFc (fun  ws_41 t9 H1 locs ht9 hvm9 hw9 hB9 hz9 hk9 hS => ?_)
    obtain ⟨E_42, Fr_43, hG, hP1, hD1⟩ := hB9
    have hP : va_P (gD g) cl0 ws_41 H1 := by rw [← ht9]; exact hP1
    have hD : va_D A ws_41 := hD1.weaken (fun _ _ _ h => hFc _ h)
    clear hP1 hD1 hz9 hk9 hvm9 ht9 hw9
    generalize H1 = H at hP hS ⊢
    have aa_46 := a_r1_39
    have aa_47 := a_r2_39
    have aa_48 := a_r4_39
    have aa_49 := a_r6_39
    have aa_50 := a_r8_39
    have aa_51 := a_r9_39
    have aa_52 := a_r10_39
    have o_h0 := E_42.1 _ _ o_h0
    refine lv_aload_n hx hb dX5_leave_39 rfl (lv_at hl 2 rfl) ?_
    refine lv_dup hx hb dX5_leave_40 rfl ?_
    obtain ⟨fs9, hk_53, hq_53⟩ := ((gF.a (F' := [(5, 14), (5, 19)]) Fr_43 (fun _ h => h))) _ _ _ hk_39
    obtain ⟨v0_53, r1_53, n1_53, r2_53, n2_53, c3_53, r4_53, n4_53, c5_53, r6_53, n6_53, c7_53, r8_53, n8_53, r9_53, n9_53, r10_53, n10_53, c11_53, v12_53, c13_53, c14_53, c15_53, l16_53, c17_53, c18_53, c19_53, rfl, o_v0_53, F_v0_53, a_r1_53, f3_53, a_r2_53, f5_53, a_r4_53, f7_53, a_r6_53, f9_53, a_r8_53, f11_53, a_r9_53, f13_53, a_r10_53, f15_53, o_v12_53, f17_53, f18_53, f19_53, f20_53, f21_53, f22_53, f23_53, f24_53, f25_53, f26_53, f27_53, f28_53, f29_53, f30_53, f31_53, -⟩ := (hG.1 _ _ _ _ hk_53).hX5 rfl
    have hn9 := fe_qr (hq_53 0 (by decide))
    subst hn9
    have o_b_2 := o_v0_53 _ rfl
    have F_b_2 := F_v0_53 _ rfl
    obtain rfl := fe_i (hq_53 11 (by decide))
    have hn9 := fe_qr (hq_53 12 (by decide))
    subst hn9
    have o_b_40 := o_v12_53 _ rfl
    obtain rfl := fe_i (hq_53 13 (by decide))
    refine va_get (D := gD g) (ci := 5) (v := .int c13_39) (C := RX5) (T := TX5) (N := 20) hx hb hts inX5 hown hK hP k_1 hk_53 rfl 13 (by decide) (hts _ kw_1021) (fun _ h9 => h9) rfl dX5_leave_41 ?_
    refine lv_iconst (v := 1) hx hb dX5_leave_44 (by decide) ?_
    refine lv_iadd hx hb dX5_leave_45 ?_
    refine lv_topi (fun z_54 ez_54 => ?_)
    have hV9 : okv ws_41 5 13 (.int z_54) := okv_i
    refine va_put (D := gD g) (ci := 5) (v := .int z_54) (ty := .int) (C := RX5) (T := TX5) (N := 20) hx hb hts inX5 tyX5 tyX5_ok nmX5 hown hK hP hD hS k_1 hk_53 rfl 13 (by decide) (hts _ kw_1021) (fun _ h9 => h9) rfl (by decide +kernel) rfl rfl (Nat.le_of_ble_eq_true rfl) dX5_leave_46 (fun H locs hP hD hS => ?_)
    have hi_55 : invX5 g ws_41 h0 [.ref b_2, .ref r1_53, .ref r2_53, .int c3_53, .ref r4_53, .int c5_53, .ref r6_53, .int c7_53, .ref r8_53, .ref r9_53, .ref r10_53, .int c11_39, .ref b_40, .int z_54, .int c14_53, .int c15_53, .long l16_53, .int c17_53, .int c18_53, .int c19_53] := ⟨(some b_2), r1_53, (n1_53), r2_53, (n2_53), (c3_53), r4_53, (n4_53), (c5_53), r6_53, (n6_53), (c7_53), r8_53, (n8_53), r9_53, (n9_53), r10_53, (n10_53), (c11_39), (some b_40), (z_54), (c14_53), (c15_53), (l16_53), (c17_53), (c18_53), (c19_53), rfl, (fun b h9 => by cases h9; exact o_b_2), (fun b h9 => by cases h9; exact F_b_2), a_r1_53, f3_53, a_r2_53, f5_53, a_r4_53, f7_53, a_r6_53, f9_53, a_r8_53, f11_53, a_r9_53, f13_53, a_r10_53, f15_53, (fun b h9 => by cases h9; exact o_b_40), f17_53, f18_53, f19_53, f20_53, f21_53, f22_53, f23_53, f24_53, f25_53, f26_53, f27_53, f28_53, f29_53, f30_53, f31_53, trivial⟩
    obtain ⟨ws_56, e_ws_56⟩ : ∃ z, z = ws_41.set k_1 (h0, .inr (5, [.ref b_2, .ref r1_53, .ref r2_53, .int c3_53, .ref r4_53, .int c5_53, .ref r6_53, .int c7_53, .ref r8_53, .ref r9_53, .ref r10_53, .int c11_39, .ref b_40, .int z_54, .int c14_53, .int c15_53, .long l16_53, .int c17_53, .int c18_53, .int c19_53])) := ⟨_, rfl⟩
    have hP : va_P (gD g) cl0 ws_56 H := by rw [e_ws_56]; exact hP
    have hD : va_D A ws_56 := by rw [e_ws_56]; exact hD
    have E_57 : gE ws_41 ws_56 := gE_set e_ws_56 hk_53 (cw_o (fi := 13) (v := .int z_54) rfl (by decide))
    have hG : Good g ws_56 := Good_set (fi := 13) (v := .int z_54) e_ws_56 hk_53 E_57 rfl hV9 hG (ivX5 hi_55)
    have Fr_58 : gF [(5, 13)] [] (some h0) ws_41 ws_56 := gF_put (fi := 13) (v := .int z_54) e_ws_56 hk_53 rfl (by decide)
    have hkN := gset_self e_ws_56 hk_53
    have hk_53 := hkN
    have o_h0 := E_57.1 _ _ o_h0
    have a_r1_53 := E_57.1 _ _ a_r1_53
    have a_r2_53 := E_57.1 _ _ a_r2_53
    have a_r4_53 := E_57.1 _ _ a_r4_53
    have a_r6_53 := E_57.1 _ _ a_r6_53
    have a_r8_53 := E_57.1 _ _ a_r8_53
    have a_r9_53 := E_57.1 _ _ a_r9_53
    have a_r10_53 := E_57.1 _ _ a_r10_53
    have o_b_2 := E_57.1 _ _ o_b_2
    have F_b_2 := F_b_2.mo E_57
    have o_b_40 := E_57.1 _ _ o_b_40
    refine W.widen (k := 0) (n := 0) (Nat.le_of_ble_eq_true rfl) (Nat.le_of_ble_eq_true rfl) ?_
    have tq_59 : frP g ws_56 h0 := frP_mo ((gF.tr (gF.mo (F' := [(5, 13), (5, 14), (5, 19)]) (C' := [(5, 9)]) (S' := none) Fr_43 (by decide) (fun _ h => h) (Or.inr rfl)) (gF.mo (F' := [(5, 13), (5, 14), (5, 19)]) (C' := [(5, 9)]) (S' := none) Fr_58 (by decide) (fun _ h => absurd h List.not_mem_nil) (Or.inl rfl)))) (by decide) (by decide) (by decide) (by decide) (by decide) xp_29
    have tq_60 : swU ws_56 h0 := swU_mo ((gF.tr (gF.mo (F' := [(5, 13), (5, 14), (5, 19)]) (C' := [(5, 9)]) (S' := none) Fr_43 (by decide) (fun _ h => h) (Or.inr rfl)) (gF.mo (F' := [(5, 13), (5, 14), (5, 19)]) (C' := [(5, 9)]) (S' := none) Fr_58 (by decide) (fun _ h => absurd h List.not_mem_nil) (Or.inl rfl)))) (by decide) (by decide) (by decide) (by decide) (by decide) (by decide) (by decide) (by decide) (by decide) (by decide) (by decide) xp_30
    have tq_61 : swC ws_56 h0 := swC_mo ((gF.tr (gF.mo (F' := [(5, 13), (5, 14), (5, 19)]) (C' := [(5, 9)]) (S' := none) Fr_43 (by decide) (fun _ h => h) (Or.inr rfl)) (gF.mo (F' := [(5, 13), (5, 14), (5, 19)]) (C' := [(5, 9)]) (S' := none) Fr_58 (by decide) (fun _ h => absurd h List.not_mem_nil) (Or.inl rfl)))) (by decide) (by decide) (by decide) (by decide) (by decide) (by decide) (by decide) (by decide) (by decide) xp_31
    have tq_62 : arP g ws_56 h0 := arP_mo ((gF.tr (gF.mo (F' := [(5, 11), (5, 12), (5, 13), (5, 14), (5, 19)]) (C' := [(5, 9)]) (S' := none) Fr_8 (by decide) (fun _ h => absurd h List.not_mem_nil) (Or.inr rfl)) (gF.tr (gF.mo (F' := [(5, 11), (5, 12), (5, 13), (5, 14), (5, 19)]) (C' := [(5, 9)]) (S' := none) Fr_24 (by decide) (fun _ h => absurd h List.not_mem_nil) (Or.inr rfl)) (gF.tr (gF.mo (F' := [(5, 11), (5, 12), (5, 13), (5, 14), (5, 19)]) (C' := [(5, 9)]) (S' := none) Fr_43 (by decide) (fun _ h => h) (Or.inr rfl)) (gF.mo (F' := [(5, 11), (5, 12), (5, 13), (5, 14), (5, 19)]) (C' := [(5, 9)]) (S' := none) Fr_58 (by decide) (fun _ h => absurd h List.not_mem_nil) (Or.inl rfl)))))) ((E_7.tr (E_23.tr (E_42.tr E_57)))) (by decide) (by decide) tk3
    exact W.vret hx hb hr (fun t9 ht9 hW9 => ⟨⟨ws_56, rfl, ⟨trivial, (gN_of hD hk_53 (j := 0) rfl), (gN_of hD hk_53 (j := 12) rfl), tq_59, tq_60, tq_61, tq_62⟩, ⟨(E_7.tr (E_23.tr (E_42.tr E_57))), (gF.tr (gF.mo (F' := [(5, 11), (5, 12), (5, 13), (5, 14), (5, 15), (5, 16), (5, 19)]) (C' := [(5, 9)]) (S' := none) Fr_8 (by decide) (fun _ h => absurd h List.not_mem_nil) (Or.inr rfl)) (gF.tr (gF.mo (F' := [(5, 11), (5, 12), (5, 13), (5, 14), (5, 15), (5, 16), (5, 19)]) (C' := [(5, 9)]) (S' := none) Fr_24 (by decide) (fun _ h => absurd h List.not_mem_nil) (Or.inr rfl)) (gF.tr (gF.mo (F' := [(5, 11), (5, 12), (5, 13), (5, 14), (5, 15), (5, 16), (5, 19)]) (C' := [(5, 9)]) (S' := none) Fr_43 (by decide) (fun _ h => h) (Or.inr rfl)) (gF.mo (F' := [(5, 11), (5, 12), (5, 13), (5, 14), (5, 15), (5, 16), (5, 19)]) (C' := [(5, 9)]) (S' := none) Fr_58 (by decide) (fun _ h => absurd h List.not_mem_nil) (Or.inl rfl))))), hG, by rw [ht9]; exact hP, hD⟩⟩, hS.F ht9⟩) hS.2.2 dX5_leave_49
  · refine lv_aload_n hx hb dX5_leave_18 rfl (lv_at hl 2 rfl) ?_
    refine lv_iconst (v := 0) hx hb dX5_leave_19 (by decide) ?_
    have hV9 : okv ws_6 5 15 (.int 0) := okv_i
    refine va_put (D := gD g) (ci := 5) (v := .int 0) (ty := .int) (C := RX5) (T := TX5) (N := 20) hx hb hts inX5 tyX5 tyX5_ok nmX5 hown hK hP hD hS k_1 hk_18 rfl 15 (by decide) (hts _ kw_1041) (fun _ h9 => h9) rfl (by decide +kernel) rfl rfl (Nat.le_of_ble_eq_true rfl) dX5_leave_20 (fun H locs hP hD hS => ?_)
    have hi_63 : invX5 g ws_6 h0 [.ref b_2, .ref r1_18, .ref r2_18, .int c3_18, .ref r4_18, .int c5_18, .ref r6_18, .int c7_18, .ref r8_18, .ref r9_18, .ref r10_18, .int c11_1, .ref b_3, .int c13_1, .int c14_18, .int 0, .long l16_18, .int c17_18, .int c18_18, .int c19_18] := ⟨(some b_2), r1_18, (n1_18), r2_18, (n2_18), (c3_18), r4_18, (n4_18), (c5_18), r6_18, (n6_18), (c7_18), r8_18, (n8_18), r9_18, (n9_18), r10_18, (n10_18), (c11_1), (some b_3), (c13_1), (c14_18), (0), (l16_18), (c17_18), (c18_18), (c19_18), rfl, (fun b h9 => by cases h9; exact o_b_2), (fun b h9 => by cases h9; exact F_b_2), a_r1_18, f3_18, a_r2_18, f5_18, a_r4_18, f7_18, a_r6_18, f9_18, a_r8_18, f11_18, a_r9_18, f13_18, a_r10_18, f15_18, (fun b h9 => by cases h9; exact o_b_3), f17_18, f18_18, f19_18, f20_18, f21_18, f22_18, f23_18, f24_18, f25_18, f26_18, f27_18, f28_18, f29_18, f30_18, f31_18, trivial⟩
    obtain ⟨ws_64, e_ws_64⟩ : ∃ z, z = ws_6.set k_1 (h0, .inr (5, [.ref b_2, .ref r1_18, .ref r2_18, .int c3_18, .ref r4_18, .int c5_18, .ref r6_18, .int c7_18, .ref r8_18, .ref r9_18, .ref r10_18, .int c11_1, .ref b_3, .int c13_1, .int c14_18, .int 0, .long l16_18, .int c17_18, .int c18_18, .int c19_18])) := ⟨_, rfl⟩
    have hP : va_P (gD g) cl0 ws_64 H := by rw [e_ws_64]; exact hP
    have hD : va_D A ws_64 := by rw [e_ws_64]; exact hD
    have E_65 : gE ws_6 ws_64 := gE_set e_ws_64 hk_18 (cw_o (fi := 15) (v := .int 0) rfl (by decide))
    have hG : Good g ws_64 := Good_set (fi := 15) (v := .int 0) e_ws_64 hk_18 E_65 rfl hV9 hG (ivX5 hi_63)
    have Fr_66 : gF [(5, 15)] [] (some h0) ws_6 ws_64 := gF_put (fi := 15) (v := .int 0) e_ws_64 hk_18 rfl (by decide)
    have hkN := gset_self e_ws_64 hk_18
    have hk_18 := hkN
    have o_h0 := E_65.1 _ _ o_h0
    have a_r1_18 := E_65.1 _ _ a_r1_18
    have a_r2_18 := E_65.1 _ _ a_r2_18
    have a_r4_18 := E_65.1 _ _ a_r4_18
    have a_r6_18 := E_65.1 _ _ a_r6_18
    have a_r8_18 := E_65.1 _ _ a_r8_18
    have a_r9_18 := E_65.1 _ _ a_r9_18
    have a_r10_18 := E_65.1 _ _ a_r10_18
    have o_b_2 := E_65.1 _ _ o_b_2
    have F_b_2 := F_b_2.mo E_65
    have o_b_3 := E_65.1 _ _ o_b_3
    refine lv_aload_n hx hb dX5_leave_23 rfl (lv_at hl 2 rfl) ?_
    refine lv_lload_n hx hb dX5_leave_24 rfl (lv_at hl 0 rfl) ?_
    have hV9 : okv ws_64 5 16 (.long r_5) := okv_l
    refine va_put (D := gD g) (ci := 5) (v := .long r_5) (ty := .long) (C := RX5) (T := TX5) (N := 20) hx hb hts inX5 tyX5 tyX5_ok nmX5 hown hK hP hD hS k_1 hk_18 rfl 16 (by decide) (hts _ kw_1085) (fun _ h9 => h9) rfl (by decide +kernel) rfl rfl (Nat.le_of_ble_eq_true rfl) dX5_leave_25 (fun H locs hP hD hS => ?_)
    have hi_67 : invX5 g ws_64 h0 [.ref b_2, .ref r1_18, .ref r2_18, .int c3_18, .ref r4_18, .int c5_18, .ref r6_18, .int c7_18, .ref r8_18, .ref r9_18, .ref r10_18, .int c11_1, .ref b_3, .int c13_1, .int c14_18, .int 0, .long r_5, .int c17_18, .int c18_18, .int c19_18] := ⟨(some b_2), r1_18, (n1_18), r2_18, (n2_18), (c3_18), r4_18, (n4_18), (c5_18), r6_18, (n6_18), (c7_18), r8_18, (n8_18), r9_18, (n9_18), r10_18, (n10_18), (c11_1), (some b_3), (c13_1), (c14_18), (0), (r_5), (c17_18), (c18_18), (c19_18), rfl, (fun b h9 => by cases h9; exact o_b_2), (fun b h9 => by cases h9; exact F_b_2), a_r1_18, f3_18, a_r2_18, f5_18, a_r4_18, f7_18, a_r6_18, f9_18, a_r8_18, f11_18, a_r9_18, f13_18, a_r10_18, f15_18, (fun b h9 => by cases h9; exact o_b_3), f17_18, f18_18, f19_18, f20_18, f21_18, f22_18, f23_18, f24_18, f25_18, f26_18, f27_18, f28_18, f29_18, f30_18, f31_18, trivial⟩
    obtain ⟨ws_68, e_ws_68⟩ : ∃ z, z = ws_64.set k_1 (h0, .inr (5, [.ref b_2, .ref r1_18, .ref r2_18, .int c3_18, .ref r4_18, .int c5_18, .ref r6_18, .int c7_18, .ref r8_18, .ref r9_18, .ref r10_18, .int c11_1, .ref b_3, .int c13_1, .int c14_18, .int 0, .long r_5, .int c17_18, .int c18_18, .int c19_18])) := ⟨_, rfl⟩
    have hP : va_P (gD g) cl0 ws_68 H := by rw [e_ws_68]; exact hP
    have hD : va_D A ws_68 := by rw [e_ws_68]; exact hD
    have E_69 : gE ws_64 ws_68 := gE_set e_ws_68 hk_18 (cw_o (fi := 16) (v := .long r_5) rfl (by decide))
    have hG : Good g ws_68 := Good_set (fi := 16) (v := .long r_5) e_ws_68 hk_18 E_69 rfl hV9 hG (ivX5 hi_67)
    have Fr_70 : gF [(5, 16)] [] (some h0) ws_64 ws_68 := gF_put (fi := 16) (v := .long r_5) e_ws_68 hk_18 rfl (by decide)
    have hkN := gset_self e_ws_68 hk_18
    have hk_18 := hkN
    have o_h0 := E_69.1 _ _ o_h0
    have a_r1_18 := E_69.1 _ _ a_r1_18
    have a_r2_18 := E_69.1 _ _ a_r2_18
    have a_r4_18 := E_69.1 _ _ a_r4_18
    have a_r6_18 := E_69.1 _ _ a_r6_18
    have a_r8_18 := E_69.1 _ _ a_r8_18
    have a_r9_18 := E_69.1 _ _ a_r9_18
    have a_r10_18 := E_69.1 _ _ a_r10_18
    have o_b_2 := E_69.1 _ _ o_b_2
    have F_b_2 := F_b_2.mo E_69
    have o_b_3 := E_69.1 _ _ o_b_3
    refine W.widen (k := 0) (n := 0) (Nat.le_of_ble_eq_true rfl) (Nat.le_of_ble_eq_true rfl) ?_
    have tq_71 : frP g ws_68 h0 := frP_mo ((gF.tr (gF.mo (F' := [(5, 14), (5, 15), (5, 16), (5, 19)]) (C' := []) (S' := none) Fr_8 (by decide) (fun _ h => h) (Or.inr rfl)) (gF.tr (gF.mo (F' := [(5, 14), (5, 15), (5, 16), (5, 19)]) (C' := []) (S' := none) Fr_66 (by decide) (fun _ h => h) (Or.inl rfl)) (gF.mo (F' := [(5, 14), (5, 15), (5, 16), (5, 19)]) (C' := []) (S' := none) Fr_70 (by decide) (fun _ h => h) (Or.inl rfl))))) (by decide) (by decide) (by decide) (by decide) (by decide) tk0
    have tq_72 : swU ws_68 h0 := swU_mo ((gF.tr (gF.mo (F' := [(5, 14), (5, 15), (5, 16), (5, 19)]) (C' := []) (S' := none) Fr_8 (by decide) (fun _ h => h) (Or.inr rfl)) (gF.tr (gF.mo (F' := [(5, 14), (5, 15), (5, 16), (5, 19)]) (C' := []) (S' := none) Fr_66 (by decide) (fun _ h => h) (Or.inl rfl)) (gF.mo (F' := [(5, 14), (5, 15), (5, 16), (5, 19)]) (C' := []) (S' := none) Fr_70 (by decide) (fun _ h => h) (Or.inl rfl))))) (by decide) (by decide) (by decide) (by decide) (by decide) (by decide) (by decide) (by decide) (by decide) (by decide) (by decide) tk1
    have tq_73 : swC ws_68 h0 := swC_mo ((gF.tr (gF.mo (F' := [(5, 14), (5, 15), (5, 16), (5, 19)]) (C' := []) (S' := none) Fr_8 (by decide) (fun _ h => h) (Or.inr rfl)) (gF.tr (gF.mo (F' := [(5, 14), (5, 15), (5, 16), (5, 19)]) (C' := []) (S' := none) Fr_66 (by decide) (fun _ h => h) (Or.inl rfl)) (gF.mo (F' := [(5, 14), (5, 15), (5, 16), (5, 19)]) (C' := []) (S' := none) Fr_70 (by decide) (fun _ h => h) (Or.inl rfl))))) (by decide) (by decide) (by decide) (by decide) (by decide) (by decide) (by decide) (by decide) (by decide) tk2
    have tq_74 : arP g ws_68 h0 := arP_mo ((gF.tr (gF.mo (F' := [(5, 14), (5, 15), (5, 16), (5, 19)]) (C' := []) (S' := none) Fr_8 (by decide) (fun _ h => h) (Or.inr rfl)) (gF.tr (gF.mo (F' := [(5, 14), (5, 15), (5, 16), (5, 19)]) (C' := []) (S' := none) Fr_66 (by decide) (fun _ h => h) (Or.inl rfl)) (gF.mo (F' := [(5, 14), (5, 15), (5, 16), (5, 19)]) (C' := []) (S' := none) Fr_70 (by decide) (fun _ h => h) (Or.inl rfl))))) ((E_7.tr (E_65.tr E_69))) (by decide) (by decide) tk3
    exact W.vret hx hb hr (fun t9 ht9 hW9 => ⟨⟨ws_68, rfl, ⟨trivial, (gN_of hD hk_18 (j := 0) rfl), (gN_of hD hk_18 (j := 12) rfl), tq_71, tq_72, tq_73, tq_74⟩, ⟨(E_7.tr (E_65.tr E_69)), (gF.tr (gF.mo (F' := [(5, 11), (5, 12), (5, 13), (5, 14), (5, 15), (5, 16), (5, 19)]) (C' := [(5, 9)]) (S' := none) Fr_8 (by decide) (fun _ h => absurd h List.not_mem_nil) (Or.inr rfl)) (gF.tr (gF.mo (F' := [(5, 11), (5, 12), (5, 13), (5, 14), (5, 15), (5, 16), (5, 19)]) (C' := [(5, 9)]) (S' := none) Fr_66 (by decide) (fun _ h => absurd h List.not_mem_nil) (Or.inl rfl)) (gF.mo (F' := [(5, 11), (5, 12), (5, 13), (5, 14), (5, 15), (5, 16), (5, 19)]) (C' := [(5, 9)]) (S' := none) Fr_70 (by decide) (fun _ h => absurd h List.not_mem_nil) (Or.inl rfl)))), hG, by rw [ht9]; exact hP, hD⟩⟩, hS.F ht9⟩) hS.2.2 dX5_leave_28
