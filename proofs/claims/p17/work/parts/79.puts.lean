set_option maxHeartbeats 1000000 in
set_option maxRecDepth 100000 in
theorem m_X11_putMember (l : Launch) (g : Gm) (H0 : Heap) (ws : va_W) (h0 : Nat) (x1 : Int32) (x2 : Int32) (x3 : Int32) (wb : Int) (wc : Int) (hG : Good g ws) (o_h0 : gC ws h0 10) (tk0 : wcP ws h0 0 wb wc) (pwc : wb + 8 ≤ 131072 ∧ wc + 0 ≤ 131072) : Met l yX11_putMember (wt yX11_putMember cX11_putMember 4 none) ({ frames := 4, cells := PC ws + (0), slots := PS ws + (0), locals := 104 }) (va_Pc [.ref h0, .int x1, .int x2, .int x3] (st_H g H0 ws)) (va_Qv (fun (u9 : va_W) => (True) ∧ (wcP u9 h0 0 (wb + 8) (wc + 0))) (gQ2 g [(0, 0), (0, 1)] [(0, 0), (6, 0)] none (va_A ws H0.size) ws H0 (0) (0)) (va_A ws H0.size)) (PC ws + (0)) (PS ws + (0)) (va_A ws H0.size) := by
  refine Met.ofW (cc := cX11_putMember) (maxL := 4) (ret := none) (by decide) rfl ?_
  intro p e s m args below meth c s₁ B hml hv
  obtain ⟨rfl, hH0, hsz, hP, hK, hD0, hex, hE⟩ := hv
  have hx := B.exec
  have hb := B.bytes
  have hr := B.returns
  have hts0 := atoms_spec (ws := wt yX11_putMember cX11_putMember 4 none) B.pre
  have hts : ∀ w ∈ tb, w.before _ s = true := fun w h => hts0 w (List.mem_cons_of_mem _ h)
  have hown : s.vm.findClass RX11 = some m.cls := findClass_of_methodNamed B.named
  subst hH0
  have hD := hD0.self (sz := s.heap.size)
  generalize hAe : va_A ws s.heap.size = A at hD hE ⊢
  have hA : ∀ q : Nat, s.heap.size ≤ q → A q := fun q h => by rw [← hAe]; exact Or.inr h
  have hS : va_S A s.heap s.heap [] := va_S.rf
  have hl := lv_entry ([.ref h0, .int x1, .int x2, .int x3]) (n := 4) (Nat.le_of_ble_eq_true rfl)
  rw [lg_entry_eq]
  generalize (lg_sl ([.ref h0, .int x1, .int x2, .int x3]) ++ List.replicate (4 - (lg_sl ([.ref h0, .int x1, .int x2, .int x3])).length) Slot.unset).toArray = ls at hl ⊢
  have hl : lv_has ls 4 [(0, .ref h0), (1, .int x1), (2, .int x2), (3, .int x3)] := hl
  refine lv_aload_n hx hb dX11_putMember_0 rfl (lv_at hl 0 rfl) ?_
  obtain ⟨k_1, fs9, hk_1⟩ := gC_of o_h0
  obtain ⟨r0_1, r1_1, r2_1, r3_1, n3_1, r4_1, n4_1, c5_1, c6_1, v7_1, c8_1, c9_1, r10_1, n10_1, r11_1, n11_1, r12_1, n12_1, r13_1, n13_1, r14_1, v15_1, r16_1, n16_1, r17_1, n17_1, rfl, o_r0_1, o_r1_1, o_r2_1, a_r3_1, f4_1, a_r4_1, f6_1, hz_c6_1, o_v7_1, a_r10_1, f10_1, a_r11_1, f12_1, a_r12_1, f14_1, a_r13_1, f16_1, o_r14_1, o_v15_1, a_r16_1, f20_1, a_r17_1, f22_1, f23_1, f24_1, f25_1, f26_1, f27_1, f28_1, -⟩ := (hG.1 _ _ _ _ hk_1).hX11 rfl
  refine va_get (D := gD g) (ci := 10) (v := .ref r1_1) (C := RX11) (T := TX11) (N := 18) hx hb hts inX11 hown hK hP k_1 hk_1 rfl 1 (by decide) (hts _ kw_94) (fun _ h9 => h9) rfl dX11_putMember_1 ?_
  refine lv_bipush (v := 9) hx hb dX11_putMember_4 (by decide) ?_
  obtain ⟨k_2, fs9, hk_2⟩ := gC_of o_r1_1
  obtain ⟨r0_2, n0_2, c1_2, rfl, a_r0_2, f1_2, f2_2, f3_2, f4_2, f5_2, -⟩ := (hG.1 _ _ _ _ hk_2).hX0 rfl
  have wb_3 : c1_2.toInt ≤ wb := wcP_u1 hD hk_1 rfl hk_2 rfl tk0
  have hkW := hk_1
  have hDW := hD
  have hFc := gfree hD hS hA
  have pg_4 := ge_10_17 hD hk_1 rfl a_r17_1
  have pg_5 := ge_0_0 hD hk_2 rfl a_r0_2
  refine W_led (fun hL0 => ?_)
  refine va_callv (va_runV (As := [.int 9]) (rest := []) ⟨hx, hb, hml, hown, hts⟩ (m_X0_put2 l g s.heap ws r1_1 (9) (c1_2) hG o_r1_1 (gP_of hD hk_2 (fun q90 e90 => by cases e90; exact (by have q_f2_2 := f2_2; have q_f3_2 := f3_2; have q_wb_3 := wb_3; have q_pwc := pwc; have q_f1_2 := f1_2; have q_f4_2 := f4_2; have q_f5_2 := f5_2; have g_c1_2 := i_rg c1_2; omega))) (gP_of hD hk_2 (fun q90 e90 => by cases e90; exact (by have q_f2_2 := f2_2; have q_f3_2 := f3_2; have q_wb_3 := wb_3; have q_pwc := pwc; have q_f1_2 := f1_2; have q_f4_2 := f4_2; have q_f5_2 := f5_2; have g_c1_2 := i_rg c1_2; omega)))) (cwV 1 hts (gd_V kw_96 kw_17 kw_18 kw_3 kw_16) rfl rfl rfl (by decide +kernel) ⟨Nat.le_of_ble_eq_true rfl, Nat.le_of_ble_eq_true rfl⟩) ⟨gblindH, va_recv hK hP (ci := 0) (q0 := k_2) rfl hk_2, fun U hU hW9 => gmkH hU hW9 hP hK hD hex hE hS hFc⟩ rfl rfl hl.1 rfl (lv_room (Nat.le_of_ble_eq_true rfl)) dX11_putMember_6 ⟨(show 0 + (PC ws + (0)) ≤ PC ws + (0) from (by have e0 : (0 : Int32).toInt = 0 := (by decide); omega)), (show 0 + (PS ws + (0)) ≤ PS ws + (0) from (by have e0 : (0 : Int32).toInt = 0 := (by decide); omega))⟩) hS (fun q _ h => hFc q h) hFc (fun  ws_6 t9 H1 locs ht9 hvm9 hw9 hB9 hz9 hk9 hS => ?_)
  obtain ⟨E_7, Fr_8, hG, hP1, hD1, dc_9, ds_10, hLd, hdc_9, hds_10⟩ := hB9
  rw [ht9] at hLd
  refine W_tight (hL0.tr hLd).1 (hL0.tr hLd).2.1 ?_
  clear hL0 hLd
  have hP : va_P (gD g) cl0 ws_6 H1 := by rw [← ht9]; exact hP1
  have hD : va_D A ws_6 := hD1.weaken (fun _ _ _ h => hFc _ h)
  have kf_11 := hw9
  clear hP1 hD1 hz9 hk9 hvm9 ht9 hw9
  generalize H1 = H at hP hS ⊢
  have aa_12 := a_r3_1
  have aa_13 := a_r4_1
  have aa_14 := a_r10_1
  have aa_15 := a_r11_1
  have aa_16 := a_r12_1
  have aa_17 := a_r13_1
  have aa_18 := a_r16_1
  have aa_19 := a_r17_1
  have aa_20 := a_r0_2
  have o_h0 := E_7.1 _ _ o_h0
  have tq_21 : wcP ws_6 h0 0 (wb + 2) wc := wcP_1 hDW hG Fr_8 (by decide) (by decide) (by decide) (by decide) hkW rfl (fun k9 ci9 fs9 h9 c9 e9 => by have w9 := kf_11 _ _ _ h9 c9 e9; omega) tk0
  refine lv_aload_n hx hb dX11_putMember_9 rfl (lv_at hl 0 rfl) ?_
  obtain ⟨fs9, hk_22, hq_22⟩ := ((gF.a (F' := [(0, 0), (0, 1)]) Fr_8 (fun _ h => h))) _ _ _ hk_1
  obtain ⟨r0_22, r1_22, r2_22, r3_22, n3_22, r4_22, n4_22, c5_22, c6_22, v7_22, c8_22, c9_22, r10_22, n10_22, r11_22, n11_22, r12_22, n12_22, r13_22, n13_22, r14_22, v15_22, r16_22, n16_22, r17_22, n17_22, rfl, o_r0_22, o_r1_22, o_r2_22, a_r3_22, f4_22, a_r4_22, f6_22, hz_c6_22, o_v7_22, a_r10_22, f10_22, a_r11_22, f12_22, a_r12_22, f14_22, a_r13_22, f16_22, o_r14_22, o_v15_22, a_r16_22, f20_22, a_r17_22, f22_22, f23_22, f24_22, f25_22, f26_22, f27_22, f28_22, -⟩ := (hG.1 _ _ _ _ hk_22).hX11 rfl
  obtain rfl := fe_r (hq_22 1 (by decide))
  have o_r1_1 := o_r1_22
  obtain rfl := fe_q (hq_22 7 (by decide))
  have o_v7_1 := o_v7_22
  obtain rfl := fe_q (hq_22 15 (by decide))
  have o_v15_1 := o_v15_22
  refine va_get (D := gD g) (ci := 10) (v := .ref r1_1) (C := RX11) (T := TX11) (N := 18) hx hb hts inX11 hown hK hP k_1 hk_22 rfl 1 (by decide) (hts _ kw_94) (fun _ h9 => h9) rfl dX11_putMember_10 ?_
  refine lv_iload_n hx hb dX11_putMember_13 rfl (lv_at hl 1 rfl) ?_
  obtain ⟨fs9, hk_23, hq_23⟩ := ((gF.a (F' := [(0, 0), (0, 1)]) Fr_8 (fun _ h => h))) _ _ _ hk_2
  obtain ⟨r0_23, n0_23, c1_23, rfl, a_r0_23, f1_23, f2_23, f3_23, f4_23, f5_23, -⟩ := (hG.1 _ _ _ _ hk_23).hX0 rfl
  have kq_24 := kf_11 _ _ _ hk_23 _ rfl
  have wb_25 : c1_23.toInt ≤ (wb + 2) := wcP_u1 hD hk_22 rfl hk_23 rfl tq_21
  have hkW := hk_22
  have hDW := hD
  have hFc := gfree hD hS hA
  have pg_26 := ge_10_17 hD hk_22 rfl a_r17_22
  have pg_27 := ge_0_0 hD hk_23 rfl a_r0_23
  refine W_led (fun hL0 => ?_)
  refine va_callv (va_runV (As := [.int x1]) (rest := []) ⟨hx, hb, hml, hown, hts⟩ (m_X0_put2 l g H ws_6 r1_1 (x1) (c1_23) hG o_r1_1 (gP_of hD hk_23 (fun q90 e90 => by cases e90; exact (by have q_f2_23 := f2_23; have q_f3_23 := f3_23; have q_kq_24 := kq_24; have q_wb_25 := wb_25; have q_pwc := pwc; have q_f2_2 := f2_2; have q_f3_2 := f3_2; have q_wb_3 := wb_3; have q_f1_23 := f1_23; have q_f4_23 := f4_23; have q_f5_23 := f5_23; have q_f1_2 := f1_2; have q_f4_2 := f4_2; have q_f5_2 := f5_2; have g_c1_2 := i_rg c1_2; have g_c1_23 := i_rg c1_23; omega))) (gP_of hD hk_23 (fun q90 e90 => by cases e90; exact (by have q_f2_23 := f2_23; have q_f3_23 := f3_23; have q_kq_24 := kq_24; have q_wb_25 := wb_25; have q_pwc := pwc; have q_f2_2 := f2_2; have q_f3_2 := f3_2; have q_wb_3 := wb_3; have q_f1_23 := f1_23; have q_f4_23 := f4_23; have q_f5_23 := f5_23; have q_f1_2 := f1_2; have q_f4_2 := f4_2; have q_f5_2 := f5_2; have g_c1_2 := i_rg c1_2; have g_c1_23 := i_rg c1_23; omega)))) (cwV 1 hts (gd_V kw_96 kw_17 kw_18 kw_3 kw_16) rfl rfl rfl (by decide +kernel) ⟨Nat.le_of_ble_eq_true rfl, Nat.le_of_ble_eq_true rfl⟩) ⟨gblindH, va_recv hK hP (ci := 0) (q0 := k_2) rfl hk_23, fun U hU hW9 => gmkH hU hW9 hP hK hD hex hE hS hFc⟩ rfl rfl hl.1 rfl (lv_room (Nat.le_of_ble_eq_true rfl)) dX11_putMember_14 ⟨(show 0 + dc_9 + (PC ws_6 + (0)) ≤ PC ws + (0) from (by have e0 : (0 : Int32).toInt = 0 := (by decide); omega)), (show 0 + ds_10 + (PS ws_6 + (0)) ≤ PS ws + (0) from (by have e0 : (0 : Int32).toInt = 0 := (by decide); omega))⟩) hS (fun q _ h => hFc q h) hFc (fun  ws_28 t9 H1 locs ht9 hvm9 hw9 hB9 hz9 hk9 hS => ?_)
  obtain ⟨E_29, Fr_30, hG, hP1, hD1, dc_31, ds_32, hLd, hdc_31, hds_32⟩ := hB9
  rw [ht9] at hLd
  refine W_tight (hL0.tr hLd).1 (hL0.tr hLd).2.1 ?_
  clear hL0 hLd
  have hP : va_P (gD g) cl0 ws_28 H1 := by rw [← ht9]; exact hP1
  have hD : va_D A ws_28 := hD1.weaken (fun _ _ _ h => hFc _ h)
  have kf_33 := hw9
  clear hP1 hD1 hz9 hk9 hvm9 ht9 hw9
  generalize H1 = H at hP hS ⊢
  have aa_34 := a_r3_22
  have aa_35 := a_r4_22
  have aa_36 := a_r10_22
  have aa_37 := a_r11_22
  have aa_38 := a_r12_22
  have aa_39 := a_r13_22
  have aa_40 := a_r16_22
  have aa_41 := a_r17_22
  have aa_42 := a_r0_23
  have o_h0 := E_29.1 _ _ o_h0
  have tq_43 : wcP ws_28 h0 0 ((wb + 2) + 2) wc := wcP_1 hDW hG Fr_30 (by decide) (by decide) (by decide) (by decide) hkW rfl (fun k9 ci9 fs9 h9 c9 e9 => by have w9 := kf_33 _ _ _ h9 c9 e9; omega) tq_21
  refine lv_aload_n hx hb dX11_putMember_17 rfl (lv_at hl 0 rfl) ?_
  obtain ⟨fs9, hk_44, hq_44⟩ := ((gF.a (F' := [(0, 0), (0, 1)]) Fr_30 (fun _ h => h))) _ _ _ hk_22
  obtain ⟨r0_44, r1_44, r2_44, r3_44, n3_44, r4_44, n4_44, c5_44, c6_44, v7_44, c8_44, c9_44, r10_44, n10_44, r11_44, n11_44, r12_44, n12_44, r13_44, n13_44, r14_44, v15_44, r16_44, n16_44, r17_44, n17_44, rfl, o_r0_44, o_r1_44, o_r2_44, a_r3_44, f4_44, a_r4_44, f6_44, hz_c6_44, o_v7_44, a_r10_44, f10_44, a_r11_44, f12_44, a_r12_44, f14_44, a_r13_44, f16_44, o_r14_44, o_v15_44, a_r16_44, f20_44, a_r17_44, f22_44, f23_44, f24_44, f25_44, f26_44, f27_44, f28_44, -⟩ := (hG.1 _ _ _ _ hk_44).hX11 rfl
  obtain rfl := fe_r (hq_44 1 (by decide))
  have o_r1_1 := o_r1_44
  obtain rfl := fe_q (hq_44 7 (by decide))
  have o_v7_1 := o_v7_44
  obtain rfl := fe_q (hq_44 15 (by decide))
  have o_v15_1 := o_v15_44
  refine va_get (D := gD g) (ci := 10) (v := .ref r1_1) (C := RX11) (T := TX11) (N := 18) hx hb hts inX11 hown hK hP k_1 hk_44 rfl 1 (by decide) (hts _ kw_94) (fun _ h9 => h9) rfl dX11_putMember_18 ?_
  refine lv_iload_n hx hb dX11_putMember_21 rfl (lv_at hl 2 rfl) ?_
  obtain ⟨fs9, hk_45, hq_45⟩ := ((gF.a (F' := [(0, 0), (0, 1)]) Fr_30 (fun _ h => h))) _ _ _ hk_23
  obtain ⟨r0_45, n0_45, c1_45, rfl, a_r0_45, f1_45, f2_45, f3_45, f4_45, f5_45, -⟩ := (hG.1 _ _ _ _ hk_45).hX0 rfl
  have kq_46 := kf_33 _ _ _ hk_45 _ rfl
  have wb_47 : c1_45.toInt ≤ ((wb + 2) + 2) := wcP_u1 hD hk_44 rfl hk_45 rfl tq_43
  have hkW := hk_44
  have hDW := hD
  have hFc := gfree hD hS hA
  have pg_48 := ge_10_17 hD hk_44 rfl a_r17_44
  have pg_49 := ge_0_0 hD hk_45 rfl a_r0_45
  refine W_led (fun hL0 => ?_)
  refine va_callv (va_runV (As := [.int x2]) (rest := []) ⟨hx, hb, hml, hown, hts⟩ (m_X0_put2 l g H ws_28 r1_1 (x2) (c1_45) hG o_r1_1 (gP_of hD hk_45 (fun q90 e90 => by cases e90; exact (by have q_f2_45 := f2_45; have q_f3_45 := f3_45; have q_kq_46 := kq_46; have q_wb_47 := wb_47; have q_pwc := pwc; have q_wb_3 := wb_3; have q_f2_23 := f2_23; have q_f3_23 := f3_23; have q_kq_24 := kq_24; have q_wb_25 := wb_25; have q_f1_45 := f1_45; have q_f4_45 := f4_45; have q_f5_45 := f5_45; have q_f2_2 := f2_2; have q_f3_2 := f3_2; have q_f1_23 := f1_23; have q_f4_23 := f4_23; have q_f5_23 := f5_23; have g_c1_2 := i_rg c1_2; have g_c1_23 := i_rg c1_23; have g_c1_45 := i_rg c1_45; omega))) (gP_of hD hk_45 (fun q90 e90 => by cases e90; exact (by have q_f2_45 := f2_45; have q_f3_45 := f3_45; have q_kq_46 := kq_46; have q_wb_47 := wb_47; have q_pwc := pwc; have q_wb_3 := wb_3; have q_f2_23 := f2_23; have q_f3_23 := f3_23; have q_kq_24 := kq_24; have q_wb_25 := wb_25; have q_f1_45 := f1_45; have q_f4_45 := f4_45; have q_f5_45 := f5_45; have q_f2_2 := f2_2; have q_f3_2 := f3_2; have q_f1_23 := f1_23; have q_f4_23 := f4_23; have q_f5_23 := f5_23; have g_c1_2 := i_rg c1_2; have g_c1_23 := i_rg c1_23; have g_c1_45 := i_rg c1_45; omega)))) (cwV 1 hts (gd_V kw_96 kw_17 kw_18 kw_3 kw_16) rfl rfl rfl (by decide +kernel) ⟨Nat.le_of_ble_eq_true rfl, Nat.le_of_ble_eq_true rfl⟩) ⟨gblindH, va_recv hK hP (ci := 0) (q0 := k_2) rfl hk_45, fun U hU hW9 => gmkH hU hW9 hP hK hD hex hE hS hFc⟩ rfl rfl hl.1 rfl (lv_room (Nat.le_of_ble_eq_true rfl)) dX11_putMember_22 ⟨(show 0 + dc_9 + dc_31 + (PC ws_28 + (0)) ≤ PC ws + (0) from (by have e0 : (0 : Int32).toInt = 0 := (by decide); omega)), (show 0 + ds_10 + ds_32 + (PS ws_28 + (0)) ≤ PS ws + (0) from (by have e0 : (0 : Int32).toInt = 0 := (by decide); omega))⟩) hS (fun q _ h => hFc q h) hFc (fun  ws_50 t9 H1 locs ht9 hvm9 hw9 hB9 hz9 hk9 hS => ?_)
  obtain ⟨E_51, Fr_52, hG, hP1, hD1, dc_53, ds_54, hLd, hdc_53, hds_54⟩ := hB9
  rw [ht9] at hLd
  refine W_tight (hL0.tr hLd).1 (hL0.tr hLd).2.1 ?_
  clear hL0 hLd
  have hP : va_P (gD g) cl0 ws_50 H1 := by rw [← ht9]; exact hP1
  have hD : va_D A ws_50 := hD1.weaken (fun _ _ _ h => hFc _ h)
  have kf_55 := hw9
  clear hP1 hD1 hz9 hk9 hvm9 ht9 hw9
  generalize H1 = H at hP hS ⊢
  have aa_56 := a_r3_44
  have aa_57 := a_r4_44
  have aa_58 := a_r10_44
  have aa_59 := a_r11_44
  have aa_60 := a_r12_44
  have aa_61 := a_r13_44
  have aa_62 := a_r16_44
  have aa_63 := a_r17_44
  have aa_64 := a_r0_45
  have o_h0 := E_51.1 _ _ o_h0
  have tq_65 : wcP ws_50 h0 0 (((wb + 2) + 2) + 2) wc := wcP_1 hDW hG Fr_52 (by decide) (by decide) (by decide) (by decide) hkW rfl (fun k9 ci9 fs9 h9 c9 e9 => by have w9 := kf_55 _ _ _ h9 c9 e9; omega) tq_43
  refine lv_aload_n hx hb dX11_putMember_25 rfl (lv_at hl 0 rfl) ?_
  obtain ⟨fs9, hk_66, hq_66⟩ := ((gF.a (F' := [(0, 0), (0, 1)]) Fr_52 (fun _ h => h))) _ _ _ hk_44
  obtain ⟨r0_66, r1_66, r2_66, r3_66, n3_66, r4_66, n4_66, c5_66, c6_66, v7_66, c8_66, c9_66, r10_66, n10_66, r11_66, n11_66, r12_66, n12_66, r13_66, n13_66, r14_66, v15_66, r16_66, n16_66, r17_66, n17_66, rfl, o_r0_66, o_r1_66, o_r2_66, a_r3_66, f4_66, a_r4_66, f6_66, hz_c6_66, o_v7_66, a_r10_66, f10_66, a_r11_66, f12_66, a_r12_66, f14_66, a_r13_66, f16_66, o_r14_66, o_v15_66, a_r16_66, f20_66, a_r17_66, f22_66, f23_66, f24_66, f25_66, f26_66, f27_66, f28_66, -⟩ := (hG.1 _ _ _ _ hk_66).hX11 rfl
  obtain rfl := fe_r (hq_66 1 (by decide))
  have o_r1_1 := o_r1_66
  obtain rfl := fe_q (hq_66 7 (by decide))
  have o_v7_1 := o_v7_66
  obtain rfl := fe_q (hq_66 15 (by decide))
  have o_v15_1 := o_v15_66
  refine va_get (D := gD g) (ci := 10) (v := .ref r1_1) (C := RX11) (T := TX11) (N := 18) hx hb hts inX11 hown hK hP k_1 hk_66 rfl 1 (by decide) (hts _ kw_94) (fun _ h9 => h9) rfl dX11_putMember_26 ?_
  refine lv_iload_n hx hb dX11_putMember_29 rfl (lv_at hl 3 rfl) ?_
  obtain ⟨fs9, hk_67, hq_67⟩ := ((gF.a (F' := [(0, 0), (0, 1)]) Fr_52 (fun _ h => h))) _ _ _ hk_45
  obtain ⟨r0_67, n0_67, c1_67, rfl, a_r0_67, f1_67, f2_67, f3_67, f4_67, f5_67, -⟩ := (hG.1 _ _ _ _ hk_67).hX0 rfl
  have kq_68 := kf_55 _ _ _ hk_67 _ rfl
  have wb_69 : c1_67.toInt ≤ (((wb + 2) + 2) + 2) := wcP_u1 hD hk_66 rfl hk_67 rfl tq_65
  have hkW := hk_66
  have hDW := hD
  have hFc := gfree hD hS hA
  have pg_70 := ge_10_17 hD hk_66 rfl a_r17_66
  have pg_71 := ge_0_0 hD hk_67 rfl a_r0_67
  refine W_led (fun hL0 => ?_)
  refine va_callv (va_runV (As := [.int x3]) (rest := []) ⟨hx, hb, hml, hown, hts⟩ (m_X0_put2 l g H ws_50 r1_1 (x3) (c1_67) hG o_r1_1 (gP_of hD hk_67 (fun q90 e90 => by cases e90; exact (by have q_f2_67 := f2_67; have q_f3_67 := f3_67; have q_kq_68 := kq_68; have q_wb_69 := wb_69; have q_pwc := pwc; have q_wb_3 := wb_3; have q_wb_25 := wb_25; have q_f2_45 := f2_45; have q_f3_45 := f3_45; have q_kq_46 := kq_46; have q_wb_47 := wb_47; have q_f1_67 := f1_67; have q_f4_67 := f4_67; have q_f5_67 := f5_67; have q_f2_2 := f2_2; have q_f3_2 := f3_2; have q_f2_23 := f2_23; have q_f3_23 := f3_23; have q_kq_24 := kq_24; have q_f1_45 := f1_45; have q_f4_45 := f4_45; have q_f5_45 := f5_45; have g_c1_2 := i_rg c1_2; have g_c1_23 := i_rg c1_23; have g_c1_45 := i_rg c1_45; have g_c1_67 := i_rg c1_67; omega))) (gP_of hD hk_67 (fun q90 e90 => by cases e90; exact (by have q_f2_67 := f2_67; have q_f3_67 := f3_67; have q_kq_68 := kq_68; have q_wb_69 := wb_69; have q_pwc := pwc; have q_wb_3 := wb_3; have q_wb_25 := wb_25; have q_f2_45 := f2_45; have q_f3_45 := f3_45; have q_kq_46 := kq_46; have q_wb_47 := wb_47; have q_f1_67 := f1_67; have q_f4_67 := f4_67; have q_f5_67 := f5_67; have q_f2_2 := f2_2; have q_f3_2 := f3_2; have q_f2_23 := f2_23; have q_f3_23 := f3_23; have q_kq_24 := kq_24; have q_f1_45 := f1_45; have q_f4_45 := f4_45; have q_f5_45 := f5_45; have g_c1_2 := i_rg c1_2; have g_c1_23 := i_rg c1_23; have g_c1_45 := i_rg c1_45; have g_c1_67 := i_rg c1_67; omega)))) (cwV 1 hts (gd_V kw_96 kw_17 kw_18 kw_3 kw_16) rfl rfl rfl (by decide +kernel) ⟨Nat.le_of_ble_eq_true rfl, Nat.le_of_ble_eq_true rfl⟩) ⟨gblindH, va_recv hK hP (ci := 0) (q0 := k_2) rfl hk_67, fun U hU hW9 => gmkH hU hW9 hP hK hD hex hE hS hFc⟩ rfl rfl hl.1 rfl (lv_room (Nat.le_of_ble_eq_true rfl)) dX11_putMember_30 ⟨(show 0 + dc_9 + dc_31 + dc_53 + (PC ws_50 + (0)) ≤ PC ws + (0) from (by have e0 : (0 : Int32).toInt = 0 := (by decide); omega)), (show 0 + ds_10 + ds_32 + ds_54 + (PS ws_50 + (0)) ≤ PS ws + (0) from (by have e0 : (0 : Int32).toInt = 0 := (by decide); omega))⟩) hS (fun q _ h => hFc q h) hFc (fun  ws_72 t9 H1 locs ht9 hvm9 hw9 hB9 hz9 hk9 hS => ?_)
  obtain ⟨E_73, Fr_74, hG, hP1, hD1, dc_75, ds_76, hLd, hdc_75, hds_76⟩ := hB9
  rw [ht9] at hLd
  refine W_tight (hL0.tr hLd).1 (hL0.tr hLd).2.1 ?_
  clear hL0 hLd
  have hP : va_P (gD g) cl0 ws_72 H1 := by rw [← ht9]; exact hP1
  have hD : va_D A ws_72 := hD1.weaken (fun _ _ _ h => hFc _ h)
  have kf_77 := hw9
  clear hP1 hD1 hz9 hk9 hvm9 ht9 hw9
  generalize H1 = H at hP hS ⊢
  have aa_78 := a_r3_66
  have aa_79 := a_r4_66
  have aa_80 := a_r10_66
  have aa_81 := a_r11_66
  have aa_82 := a_r12_66
  have aa_83 := a_r13_66
  have aa_84 := a_r16_66
  have aa_85 := a_r17_66
  have aa_86 := a_r0_67
  have o_h0 := E_73.1 _ _ o_h0
  have tq_87 : wcP ws_72 h0 0 ((((wb + 2) + 2) + 2) + 2) wc := wcP_1 hDW hG Fr_74 (by decide) (by decide) (by decide) (by decide) hkW rfl (fun k9 ci9 fs9 h9 c9 e9 => by have w9 := kf_77 _ _ _ h9 c9 e9; omega) tq_65
  refine W_led (fun hLd => ?_)
  have hcl : 0 + dc_9 + dc_31 + dc_53 + dc_75 + PC ws_72 ≤ PC ws + (0) := (by omega)
  have hsl : 0 + ds_10 + ds_32 + ds_54 + ds_76 + PS ws_72 ≤ PS ws + (0) := (by omega)
  refine W.widen (k := PC ws + (0)) (n := PS ws + (0)) (by omega) (by omega) ?_
  have tq_88 : wcP ws_72 h0 0 (wb + 8) (wc + 0) := wcP_le (by omega) (by omega) (by omega) tq_87
  exact W.vret hx hb hr (fun t9 ht9 hW9 => ⟨⟨ws_72, rfl, ⟨trivial, tq_88⟩, ⟨(E_7.tr (E_29.tr (E_51.tr E_73))), (gF.tr (gF.mo (F' := [(0, 0), (0, 1)]) (C' := [(0, 0), (6, 0)]) (S' := none) Fr_8 (fun _ h => h) (fun _ h => h) (Or.inl rfl)) (gF.tr (gF.mo (F' := [(0, 0), (0, 1)]) (C' := [(0, 0), (6, 0)]) (S' := none) Fr_30 (fun _ h => h) (fun _ h => h) (Or.inl rfl)) (gF.tr (gF.mo (F' := [(0, 0), (0, 1)]) (C' := [(0, 0), (6, 0)]) (S' := none) Fr_52 (fun _ h => h) (fun _ h => h) (Or.inl rfl)) (gF.mo (F' := [(0, 0), (0, 1)]) (C' := [(0, 0), (6, 0)]) (S' := none) Fr_74 (fun _ h => h) (fun _ h => h) (Or.inl rfl))))), hG, by rw [ht9]; exact hP, hD, _, _, by rw [ht9]; exact hLd, hcl, hsl⟩⟩, hS.F ht9⟩) hS.2.2 dX11_putMember_33
set_option maxHeartbeats 1000000 in
set_option maxRecDepth 100000 in
theorem m_X11_putLocal (l : Launch) (g : Gm) (H0 : Heap) (ws : va_W) (h0 : Nat) (x1 : Int32) (x2 : Int32) (wb : Int) (wc : Int) (hG : Good g ws) (o_h0 : gC ws h0 10) (tk0 : wcP ws h0 0 wb wc) (pwc : wb + 2 ≤ 131072 ∧ wc + 0 ≤ 131072) : Met l yX11_putLocal (wt yX11_putLocal cX11_putLocal 3 none) ({ frames := 3, cells := PC ws + (0), slots := PS ws + (0), locals := 83 }) (va_Pc [.ref h0, .int x1, .int x2] (st_H g H0 ws)) (va_Qv (fun (u9 : va_W) => (True) ∧ (wcP u9 h0 0 (wb + 2) (wc + 0))) (gQ2 g [(0, 0), (0, 1)] [(0, 0), (6, 0)] none (va_A ws H0.size) ws H0 (0) (0)) (va_A ws H0.size)) (PC ws + (0)) (PS ws + (0)) (va_A ws H0.size) := by
  refine Met.ofW (cc := cX11_putLocal) (maxL := 3) (ret := none) (by decide) rfl ?_
  intro p e s m args below meth c s₁ B hml hv
  obtain ⟨rfl, hH0, hsz, hP, hK, hD0, hex, hE⟩ := hv
  have hx := B.exec
  have hb := B.bytes
  have hr := B.returns
  have hts0 := atoms_spec (ws := wt yX11_putLocal cX11_putLocal 3 none) B.pre
  have hts : ∀ w ∈ tb, w.before _ s = true := fun w h => hts0 w (List.mem_cons_of_mem _ h)
  have hown : s.vm.findClass RX11 = some m.cls := findClass_of_methodNamed B.named
  subst hH0
  have hD := hD0.self (sz := s.heap.size)
  generalize hAe : va_A ws s.heap.size = A at hD hE ⊢
  have hA : ∀ q : Nat, s.heap.size ≤ q → A q := fun q h => by rw [← hAe]; exact Or.inr h
  have hS : va_S A s.heap s.heap [] := va_S.rf
  have hl := lv_entry ([.ref h0, .int x1, .int x2]) (n := 3) (Nat.le_of_ble_eq_true rfl)
  rw [lg_entry_eq]
  generalize (lg_sl ([.ref h0, .int x1, .int x2]) ++ List.replicate (3 - (lg_sl ([.ref h0, .int x1, .int x2])).length) Slot.unset).toArray = ls at hl ⊢
  have hl : lv_has ls 3 [(0, .ref h0), (1, .int x1), (2, .int x2)] := hl
  refine lv_iload_n hx hb dX11_putLocal_0 rfl (lv_at hl 2 rfl) ?_
  refine lv_iconst (v := 3) hx hb dX11_putLocal_1 (by decide) ?_
  refine lv_icmp_le (tgt := 22) hx hb dX11_putLocal_2 (by decide) (fun c_1 => ?_) (fun c_1 => ?_)
  · refine lv_iload_n hx hb dX11_putLocal_22 rfl (lv_at hl 1 rfl) ?_
    have K_23_142 : W p l e (headSpec (wt yX11_putLocal cX11_putLocal 3 none) ({ frames := 3, cells := PC ws + (0), slots := PS ws + (0), locals := 83 })).room s m ([.ref h0, .int x1, .int x2] : List Value).toArray below meth c s.heap [] (0) (0) (MQ below (va_Qv (fun (u9 : va_W) => (True) ∧ (wcP u9 h0 0 (wb + 2) (wc + 0))) (gQ2 g [(0, 0), (0, 1)] [(0, 0), (6, 0)] none A ws s.heap (0) (0)) A) ([.ref h0, .int x1, .int x2] : List Value).toArray s (PC ws + (0)) (PS ws + (0)) A) (F0 m 142 ls []) := by
      refine lv_aload_n hx hb dX11_putLocal_142 rfl (lv_at hl 0 rfl) ?_
      obtain ⟨k_2, fs9, hk_2⟩ := gC_of o_h0
      obtain ⟨r0_2, r1_2, r2_2, r3_2, n3_2, r4_2, n4_2, c5_2, c6_2, v7_2, c8_2, c9_2, r10_2, n10_2, r11_2, n11_2, r12_2, n12_2, r13_2, n13_2, r14_2, v15_2, r16_2, n16_2, r17_2, n17_2, rfl, o_r0_2, o_r1_2, o_r2_2, a_r3_2, f4_2, a_r4_2, f6_2, hz_c6_2, o_v7_2, a_r10_2, f10_2, a_r11_2, f12_2, a_r12_2, f14_2, a_r13_2, f16_2, o_r14_2, o_v15_2, a_r16_2, f20_2, a_r17_2, f22_2, f23_2, f24_2, f25_2, f26_2, f27_2, f28_2, -⟩ := (hG.1 _ _ _ _ hk_2).hX11 rfl
      refine va_get (D := gD g) (ci := 10) (v := .ref r1_2) (C := RX11) (T := TX11) (N := 18) hx hb hts inX11 hown hK hP k_2 hk_2 rfl 1 (by decide) (hts _ kw_94) (fun _ h9 => h9) rfl dX11_putLocal_143 ?_
      refine lv_bipush (v := 75) hx hb dX11_putLocal_146 (by decide) ?_
      refine lv_iload_n hx hb dX11_putLocal_148 rfl (lv_at hl 2 rfl) ?_
      refine lv_iadd hx hb dX11_putLocal_149 ?_
      refine lv_topi (fun z_3 ez_3 => ?_)
      obtain ⟨k_4, fs9, hk_4⟩ := gC_of o_r1_2
      obtain ⟨r0_4, n0_4, c1_4, rfl, a_r0_4, f1_4, f2_4, f3_4, f4_4, f5_4, -⟩ := (hG.1 _ _ _ _ hk_4).hX0 rfl
      have wb_5 : c1_4.toInt ≤ wb := wcP_u1 hD hk_2 rfl hk_4 rfl tk0
      have hkW := hk_2
      have hDW := hD
      have hFc := gfree hD hS hA
      have pg_6 := ge_10_17 hD hk_2 rfl a_r17_2
      have pg_7 := ge_0_0 hD hk_4 rfl a_r0_4
      refine W_led (fun hL0 => ?_)
      refine va_callv (va_runV (As := [.int z_3]) (rest := []) ⟨hx, hb, hml, hown, hts⟩ (m_X0_put l g s.heap ws r1_2 (z_3) (c1_4) hG o_r1_2 (gP_of hD hk_4 (fun q90 e90 => by cases e90; exact (by have q_f2_4 := f2_4; have q_f3_4 := f3_4; have q_wb_5 := wb_5; have q_pwc := pwc; have q_f1_4 := f1_4; have q_f4_4 := f4_4; have q_f5_4 := f5_4; have g_c1_4 := i_rg c1_4; omega))) (gP_of hD hk_4 (fun q90 e90 => by cases e90; exact (by have q_f2_4 := f2_4; have q_f3_4 := f3_4; have q_wb_5 := wb_5; have q_pwc := pwc; have q_f1_4 := f1_4; have q_f4_4 := f4_4; have q_f5_4 := f5_4; have g_c1_4 := i_rg c1_4; omega)))) (cwV 1 hts (gd_V kw_140 kw_13 kw_14 kw_3 kw_12) rfl rfl rfl (by decide +kernel) ⟨Nat.le_of_ble_eq_true rfl, Nat.le_of_ble_eq_true rfl⟩) ⟨gblindH, va_recv hK hP (ci := 0) (q0 := k_4) rfl hk_4, fun U hU hW9 => gmkH hU hW9 hP hK hD hex hE hS hFc⟩ rfl rfl hl.1 rfl (lv_room (Nat.le_of_ble_eq_true rfl)) dX11_putLocal_150 ⟨(show 0 + (PC ws + (0)) ≤ PC ws + (0) from (by have e0 : (0 : Int32).toInt = 0 := (by decide); omega)), (show 0 + (PS ws + (0)) ≤ PS ws + (0) from (by have e0 : (0 : Int32).toInt = 0 := (by decide); omega))⟩) hS (fun q _ h => hFc q h) hFc (fun  ws_8 t9 H1 locs ht9 hvm9 hw9 hB9 hz9 hk9 hS => ?_)
      obtain ⟨E_9, Fr_10, hG, hP1, hD1, dc_11, ds_12, hLd, hdc_11, hds_12⟩ := hB9
      rw [ht9] at hLd
      refine W_tight (hL0.tr hLd).1 (hL0.tr hLd).2.1 ?_
      clear hL0 hLd
      have hP : va_P (gD g) cl0 ws_8 H1 := by rw [← ht9]; exact hP1
      have hD : va_D A ws_8 := hD1.weaken (fun _ _ _ h => hFc _ h)
      have kf_13 := hw9
      clear hP1 hD1 hz9 hk9 hvm9 ht9 hw9
      generalize H1 = H at hP hS ⊢
      have aa_14 := a_r3_2
      have aa_15 := a_r4_2
      have aa_16 := a_r10_2
      have aa_17 := a_r11_2
      have aa_18 := a_r12_2
      have aa_19 := a_r13_2
      have aa_20 := a_r16_2
      have aa_21 := a_r17_2
      have aa_22 := a_r0_4
      have o_h0 := E_9.1 _ _ o_h0
      have tq_23 : wcP ws_8 h0 0 (wb + 1) wc := wcP_1 hDW hG Fr_10 (by decide) (by decide) (by decide) (by decide) hkW rfl (fun k9 ci9 fs9 h9 c9 e9 => by have w9 := kf_13 _ _ _ h9 c9 e9; omega) tk0
      refine W_led (fun hLd => ?_)
      have hcl : 0 + dc_11 + PC ws_8 ≤ PC ws + (0) := (by omega)
      have hsl : 0 + ds_12 + PS ws_8 ≤ PS ws + (0) := (by omega)
      refine W.widen (k := PC ws + (0)) (n := PS ws + (0)) (by omega) (by omega) ?_
      have tq_24 : wcP ws_8 h0 0 (wb + 2) (wc + 0) := wcP_le (by omega) (by omega) (by omega) tq_23
      exact W.vret hx hb hr (fun t9 ht9 hW9 => ⟨⟨ws_8, rfl, ⟨trivial, tq_24⟩, ⟨E_9, (gF.mo (F' := [(0, 0), (0, 1)]) (C' := [(0, 0), (6, 0)]) (S' := none) Fr_10 (fun _ h => h) (fun _ h => h) (Or.inl rfl)), hG, by rw [ht9]; exact hP, hD, _, _, by rw [ht9]; exact hLd, hcl, hsl⟩⟩, hS.F ht9⟩) hS.2.2 dX11_putLocal_153
    have K_23_72 : W p l e (headSpec (wt yX11_putLocal cX11_putLocal 3 none) ({ frames := 3, cells := PC ws + (0), slots := PS ws + (0), locals := 83 })).room s m ([.ref h0, .int x1, .int x2] : List Value).toArray below meth c s.heap [] (0) (0) (MQ below (va_Qv (fun (u9 : va_W) => (True) ∧ (wcP u9 h0 0 (wb + 2) (wc + 0))) (gQ2 g [(0, 0), (0, 1)] [(0, 0), (6, 0)] none A ws s.heap (0) (0)) A) ([.ref h0, .int x1, .int x2] : List Value).toArray s (PC ws + (0)) (PS ws + (0)) A) (F0 m 72 ls []) := by
      refine lv_aload_n hx hb dX11_putLocal_72 rfl (lv_at hl 0 rfl) ?_
      obtain ⟨k_25, fs9, hk_25⟩ := gC_of o_h0
      obtain ⟨r0_25, r1_25, r2_25, r3_25, n3_25, r4_25, n4_25, c5_25, c6_25, v7_25, c8_25, c9_25, r10_25, n10_25, r11_25, n11_25, r12_25, n12_25, r13_25, n13_25, r14_25, v15_25, r16_25, n16_25, r17_25, n17_25, rfl, o_r0_25, o_r1_25, o_r2_25, a_r3_25, f4_25, a_r4_25, f6_25, hz_c6_25, o_v7_25, a_r10_25, f10_25, a_r11_25, f12_25, a_r12_25, f14_25, a_r13_25, f16_25, o_r14_25, o_v15_25, a_r16_25, f20_25, a_r17_25, f22_25, f23_25, f24_25, f25_25, f26_25, f27_25, f28_25, -⟩ := (hG.1 _ _ _ _ hk_25).hX11 rfl
      refine va_get (D := gD g) (ci := 10) (v := .ref r1_25) (C := RX11) (T := TX11) (N := 18) hx hb hts inX11 hown hK hP k_25 hk_25 rfl 1 (by decide) (hts _ kw_94) (fun _ h9 => h9) rfl dX11_putLocal_73 ?_
      refine lv_bipush (v := 26) hx hb dX11_putLocal_76 (by decide) ?_
      refine lv_iload_n hx hb dX11_putLocal_78 rfl (lv_at hl 2 rfl) ?_
      refine lv_iadd hx hb dX11_putLocal_79 ?_
      refine lv_topi (fun z_26 ez_26 => ?_)
      obtain ⟨k_27, fs9, hk_27⟩ := gC_of o_r1_25
      obtain ⟨r0_27, n0_27, c1_27, rfl, a_r0_27, f1_27, f2_27, f3_27, f4_27, f5_27, -⟩ := (hG.1 _ _ _ _ hk_27).hX0 rfl
      have wb_28 : c1_27.toInt ≤ wb := wcP_u1 hD hk_25 rfl hk_27 rfl tk0
      have hkW := hk_25
      have hDW := hD
      have hFc := gfree hD hS hA
      have pg_29 := ge_10_17 hD hk_25 rfl a_r17_25
      have pg_30 := ge_0_0 hD hk_27 rfl a_r0_27
      refine W_led (fun hL0 => ?_)
      refine va_callv (va_runV (As := [.int z_26]) (rest := []) ⟨hx, hb, hml, hown, hts⟩ (m_X0_put l g s.heap ws r1_25 (z_26) (c1_27) hG o_r1_25 (gP_of hD hk_27 (fun q90 e90 => by cases e90; exact (by have q_f2_27 := f2_27; have q_f3_27 := f3_27; have q_wb_28 := wb_28; have q_pwc := pwc; have q_f1_27 := f1_27; have q_f4_27 := f4_27; have q_f5_27 := f5_27; have g_c1_27 := i_rg c1_27; omega))) (gP_of hD hk_27 (fun q90 e90 => by cases e90; exact (by have q_f2_27 := f2_27; have q_f3_27 := f3_27; have q_wb_28 := wb_28; have q_pwc := pwc; have q_f1_27 := f1_27; have q_f4_27 := f4_27; have q_f5_27 := f5_27; have g_c1_27 := i_rg c1_27; omega)))) (cwV 1 hts (gd_V kw_140 kw_13 kw_14 kw_3 kw_12) rfl rfl rfl (by decide +kernel) ⟨Nat.le_of_ble_eq_true rfl, Nat.le_of_ble_eq_true rfl⟩) ⟨gblindH, va_recv hK hP (ci := 0) (q0 := k_27) rfl hk_27, fun U hU hW9 => gmkH hU hW9 hP hK hD hex hE hS hFc⟩ rfl rfl hl.1 rfl (lv_room (Nat.le_of_ble_eq_true rfl)) dX11_putLocal_80 ⟨(show 0 + (PC ws + (0)) ≤ PC ws + (0) from (by have e0 : (0 : Int32).toInt = 0 := (by decide); omega)), (show 0 + (PS ws + (0)) ≤ PS ws + (0) from (by have e0 : (0 : Int32).toInt = 0 := (by decide); omega))⟩) hS (fun q _ h => hFc q h) hFc (fun  ws_31 t9 H1 locs ht9 hvm9 hw9 hB9 hz9 hk9 hS => ?_)
      obtain ⟨E_32, Fr_33, hG, hP1, hD1, dc_34, ds_35, hLd, hdc_34, hds_35⟩ := hB9
      rw [ht9] at hLd
      refine W_tight (hL0.tr hLd).1 (hL0.tr hLd).2.1 ?_
      clear hL0 hLd
      have hP : va_P (gD g) cl0 ws_31 H1 := by rw [← ht9]; exact hP1
      have hD : va_D A ws_31 := hD1.weaken (fun _ _ _ h => hFc _ h)
      have kf_36 := hw9
      clear hP1 hD1 hz9 hk9 hvm9 ht9 hw9
      generalize H1 = H at hP hS ⊢
      have aa_37 := a_r3_25
      have aa_38 := a_r4_25
      have aa_39 := a_r10_25
      have aa_40 := a_r11_25
      have aa_41 := a_r12_25
      have aa_42 := a_r13_25
      have aa_43 := a_r16_25
      have aa_44 := a_r17_25
      have aa_45 := a_r0_27
      have o_h0 := E_32.1 _ _ o_h0
      have tq_46 : wcP ws_31 h0 0 (wb + 1) wc := wcP_1 hDW hG Fr_33 (by decide) (by decide) (by decide) (by decide) hkW rfl (fun k9 ci9 fs9 h9 c9 e9 => by have w9 := kf_36 _ _ _ h9 c9 e9; omega) tk0
      refine lv_goto (tgt := 153) hx hb dX11_putLocal_83 (by decide) ?_
      refine W_led (fun hLd => ?_)
      have hcl : 0 + dc_34 + PC ws_31 ≤ PC ws + (0) := (by omega)
      have hsl : 0 + ds_35 + PS ws_31 ≤ PS ws + (0) := (by omega)
      refine W.widen (k := PC ws + (0)) (n := PS ws + (0)) (by omega) (by omega) ?_
      have tq_47 : wcP ws_31 h0 0 (wb + 2) (wc + 0) := wcP_le (by omega) (by omega) (by omega) tq_46
      exact W.vret hx hb hr (fun t9 ht9 hW9 => ⟨⟨ws_31, rfl, ⟨trivial, tq_47⟩, ⟨E_32, (gF.mo (F' := [(0, 0), (0, 1)]) (C' := [(0, 0), (6, 0)]) (S' := none) Fr_33 (fun _ h => h) (fun _ h => h) (Or.inl rfl)), hG, by rw [ht9]; exact hP, hD, _, _, by rw [ht9]; exact hLd, hcl, hsl⟩⟩, hS.F ht9⟩) hS.2.2 dX11_putLocal_153
    have K_23_86 : W p l e (headSpec (wt yX11_putLocal cX11_putLocal 3 none) ({ frames := 3, cells := PC ws + (0), slots := PS ws + (0), locals := 83 })).room s m ([.ref h0, .int x1, .int x2] : List Value).toArray below meth c s.heap [] (0) (0) (MQ below (va_Qv (fun (u9 : va_W) => (True) ∧ (wcP u9 h0 0 (wb + 2) (wc + 0))) (gQ2 g [(0, 0), (0, 1)] [(0, 0), (6, 0)] none A ws s.heap (0) (0)) A) ([.ref h0, .int x1, .int x2] : List Value).toArray s (PC ws + (0)) (PS ws + (0)) A) (F0 m 86 ls []) := by
      refine lv_aload_n hx hb dX11_putLocal_86 rfl (lv_at hl 0 rfl) ?_
      obtain ⟨k_48, fs9, hk_48⟩ := gC_of o_h0
      obtain ⟨r0_48, r1_48, r2_48, r3_48, n3_48, r4_48, n4_48, c5_48, c6_48, v7_48, c8_48, c9_48, r10_48, n10_48, r11_48, n11_48, r12_48, n12_48, r13_48, n13_48, r14_48, v15_48, r16_48, n16_48, r17_48, n17_48, rfl, o_r0_48, o_r1_48, o_r2_48, a_r3_48, f4_48, a_r4_48, f6_48, hz_c6_48, o_v7_48, a_r10_48, f10_48, a_r11_48, f12_48, a_r12_48, f14_48, a_r13_48, f16_48, o_r14_48, o_v15_48, a_r16_48, f20_48, a_r17_48, f22_48, f23_48, f24_48, f25_48, f26_48, f27_48, f28_48, -⟩ := (hG.1 _ _ _ _ hk_48).hX11 rfl
      refine va_get (D := gD g) (ci := 10) (v := .ref r1_48) (C := RX11) (T := TX11) (N := 18) hx hb hts inX11 hown hK hP k_48 hk_48 rfl 1 (by decide) (hts _ kw_94) (fun _ h9 => h9) rfl dX11_putLocal_87 ?_
      refine lv_bipush (v := 30) hx hb dX11_putLocal_90 (by decide) ?_
      refine lv_iload_n hx hb dX11_putLocal_92 rfl (lv_at hl 2 rfl) ?_
      refine lv_iadd hx hb dX11_putLocal_93 ?_
      refine lv_topi (fun z_49 ez_49 => ?_)
      obtain ⟨k_50, fs9, hk_50⟩ := gC_of o_r1_48
      obtain ⟨r0_50, n0_50, c1_50, rfl, a_r0_50, f1_50, f2_50, f3_50, f4_50, f5_50, -⟩ := (hG.1 _ _ _ _ hk_50).hX0 rfl
      have wb_51 : c1_50.toInt ≤ wb := wcP_u1 hD hk_48 rfl hk_50 rfl tk0
      have hkW := hk_48
      have hDW := hD
      have hFc := gfree hD hS hA
      have pg_52 := ge_10_17 hD hk_48 rfl a_r17_48
      have pg_53 := ge_0_0 hD hk_50 rfl a_r0_50
      refine W_led (fun hL0 => ?_)
      refine va_callv (va_runV (As := [.int z_49]) (rest := []) ⟨hx, hb, hml, hown, hts⟩ (m_X0_put l g s.heap ws r1_48 (z_49) (c1_50) hG o_r1_48 (gP_of hD hk_50 (fun q90 e90 => by cases e90; exact (by have q_f2_50 := f2_50; have q_f3_50 := f3_50; have q_wb_51 := wb_51; have q_pwc := pwc; have q_f1_50 := f1_50; have q_f4_50 := f4_50; have q_f5_50 := f5_50; have g_c1_50 := i_rg c1_50; omega))) (gP_of hD hk_50 (fun q90 e90 => by cases e90; exact (by have q_f2_50 := f2_50; have q_f3_50 := f3_50; have q_wb_51 := wb_51; have q_pwc := pwc; have q_f1_50 := f1_50; have q_f4_50 := f4_50; have q_f5_50 := f5_50; have g_c1_50 := i_rg c1_50; omega)))) (cwV 1 hts (gd_V kw_140 kw_13 kw_14 kw_3 kw_12) rfl rfl rfl (by decide +kernel) ⟨Nat.le_of_ble_eq_true rfl, Nat.le_of_ble_eq_true rfl⟩) ⟨gblindH, va_recv hK hP (ci := 0) (q0 := k_50) rfl hk_50, fun U hU hW9 => gmkH hU hW9 hP hK hD hex hE hS hFc⟩ rfl rfl hl.1 rfl (lv_room (Nat.le_of_ble_eq_true rfl)) dX11_putLocal_94 ⟨(show 0 + (PC ws + (0)) ≤ PC ws + (0) from (by have e0 : (0 : Int32).toInt = 0 := (by decide); omega)), (show 0 + (PS ws + (0)) ≤ PS ws + (0) from (by have e0 : (0 : Int32).toInt = 0 := (by decide); omega))⟩) hS (fun q _ h => hFc q h) hFc (fun  ws_54 t9 H1 locs ht9 hvm9 hw9 hB9 hz9 hk9 hS => ?_)
      obtain ⟨E_55, Fr_56, hG, hP1, hD1, dc_57, ds_58, hLd, hdc_57, hds_58⟩ := hB9
      rw [ht9] at hLd
      refine W_tight (hL0.tr hLd).1 (hL0.tr hLd).2.1 ?_
      clear hL0 hLd
      have hP : va_P (gD g) cl0 ws_54 H1 := by rw [← ht9]; exact hP1
      have hD : va_D A ws_54 := hD1.weaken (fun _ _ _ h => hFc _ h)
      have kf_59 := hw9
      clear hP1 hD1 hz9 hk9 hvm9 ht9 hw9
      generalize H1 = H at hP hS ⊢
      have aa_60 := a_r3_48
      have aa_61 := a_r4_48
      have aa_62 := a_r10_48
      have aa_63 := a_r11_48
      have aa_64 := a_r12_48
      have aa_65 := a_r13_48
      have aa_66 := a_r16_48
      have aa_67 := a_r17_48
      have aa_68 := a_r0_50
      have o_h0 := E_55.1 _ _ o_h0
      have tq_69 : wcP ws_54 h0 0 (wb + 1) wc := wcP_1 hDW hG Fr_56 (by decide) (by decide) (by decide) (by decide) hkW rfl (fun k9 ci9 fs9 h9 c9 e9 => by have w9 := kf_59 _ _ _ h9 c9 e9; omega) tk0
      refine lv_goto (tgt := 153) hx hb dX11_putLocal_97 (by decide) ?_
      refine W_led (fun hLd => ?_)
      have hcl : 0 + dc_57 + PC ws_54 ≤ PC ws + (0) := (by omega)
      have hsl : 0 + ds_58 + PS ws_54 ≤ PS ws + (0) := (by omega)
      refine W.widen (k := PC ws + (0)) (n := PS ws + (0)) (by omega) (by omega) ?_
      have tq_70 : wcP ws_54 h0 0 (wb + 2) (wc + 0) := wcP_le (by omega) (by omega) (by omega) tq_69
      exact W.vret hx hb hr (fun t9 ht9 hW9 => ⟨⟨ws_54, rfl, ⟨trivial, tq_70⟩, ⟨E_55, (gF.mo (F' := [(0, 0), (0, 1)]) (C' := [(0, 0), (6, 0)]) (S' := none) Fr_56 (fun _ h => h) (fun _ h => h) (Or.inl rfl)), hG, by rw [ht9]; exact hP, hD, _, _, by rw [ht9]; exact hLd, hcl, hsl⟩⟩, hS.F ht9⟩) hS.2.2 dX11_putLocal_153
    have K_23_100 : W p l e (headSpec (wt yX11_putLocal cX11_putLocal 3 none) ({ frames := 3, cells := PC ws + (0), slots := PS ws + (0), locals := 83 })).room s m ([.ref h0, .int x1, .int x2] : List Value).toArray below meth c s.heap [] (0) (0) (MQ below (va_Qv (fun (u9 : va_W) => (True) ∧ (wcP u9 h0 0 (wb + 2) (wc + 0))) (gQ2 g [(0, 0), (0, 1)] [(0, 0), (6, 0)] none A ws s.heap (0) (0)) A) ([.ref h0, .int x1, .int x2] : List Value).toArray s (PC ws + (0)) (PS ws + (0)) A) (F0 m 100 ls []) := by
      refine lv_aload_n hx hb dX11_putLocal_100 rfl (lv_at hl 0 rfl) ?_
      obtain ⟨k_71, fs9, hk_71⟩ := gC_of o_h0
      obtain ⟨r0_71, r1_71, r2_71, r3_71, n3_71, r4_71, n4_71, c5_71, c6_71, v7_71, c8_71, c9_71, r10_71, n10_71, r11_71, n11_71, r12_71, n12_71, r13_71, n13_71, r14_71, v15_71, r16_71, n16_71, r17_71, n17_71, rfl, o_r0_71, o_r1_71, o_r2_71, a_r3_71, f4_71, a_r4_71, f6_71, hz_c6_71, o_v7_71, a_r10_71, f10_71, a_r11_71, f12_71, a_r12_71, f14_71, a_r13_71, f16_71, o_r14_71, o_v15_71, a_r16_71, f20_71, a_r17_71, f22_71, f23_71, f24_71, f25_71, f26_71, f27_71, f28_71, -⟩ := (hG.1 _ _ _ _ hk_71).hX11 rfl
      refine va_get (D := gD g) (ci := 10) (v := .ref r1_71) (C := RX11) (T := TX11) (N := 18) hx hb hts inX11 hown hK hP k_71 hk_71 rfl 1 (by decide) (hts _ kw_94) (fun _ h9 => h9) rfl dX11_putLocal_101 ?_
      refine lv_bipush (v := 42) hx hb dX11_putLocal_104 (by decide) ?_
      refine lv_iload_n hx hb dX11_putLocal_106 rfl (lv_at hl 2 rfl) ?_
      refine lv_iadd hx hb dX11_putLocal_107 ?_
      refine lv_topi (fun z_72 ez_72 => ?_)
      obtain ⟨k_73, fs9, hk_73⟩ := gC_of o_r1_71
      obtain ⟨r0_73, n0_73, c1_73, rfl, a_r0_73, f1_73, f2_73, f3_73, f4_73, f5_73, -⟩ := (hG.1 _ _ _ _ hk_73).hX0 rfl
      have wb_74 : c1_73.toInt ≤ wb := wcP_u1 hD hk_71 rfl hk_73 rfl tk0
      have hkW := hk_71
      have hDW := hD
      have hFc := gfree hD hS hA
      have pg_75 := ge_10_17 hD hk_71 rfl a_r17_71
      have pg_76 := ge_0_0 hD hk_73 rfl a_r0_73
      refine W_led (fun hL0 => ?_)
      refine va_callv (va_runV (As := [.int z_72]) (rest := []) ⟨hx, hb, hml, hown, hts⟩ (m_X0_put l g s.heap ws r1_71 (z_72) (c1_73) hG o_r1_71 (gP_of hD hk_73 (fun q90 e90 => by cases e90; exact (by have q_f2_73 := f2_73; have q_f3_73 := f3_73; have q_wb_74 := wb_74; have q_pwc := pwc; have q_f1_73 := f1_73; have q_f4_73 := f4_73; have q_f5_73 := f5_73; have g_c1_73 := i_rg c1_73; omega))) (gP_of hD hk_73 (fun q90 e90 => by cases e90; exact (by have q_f2_73 := f2_73; have q_f3_73 := f3_73; have q_wb_74 := wb_74; have q_pwc := pwc; have q_f1_73 := f1_73; have q_f4_73 := f4_73; have q_f5_73 := f5_73; have g_c1_73 := i_rg c1_73; omega)))) (cwV 1 hts (gd_V kw_140 kw_13 kw_14 kw_3 kw_12) rfl rfl rfl (by decide +kernel) ⟨Nat.le_of_ble_eq_true rfl, Nat.le_of_ble_eq_true rfl⟩) ⟨gblindH, va_recv hK hP (ci := 0) (q0 := k_73) rfl hk_73, fun U hU hW9 => gmkH hU hW9 hP hK hD hex hE hS hFc⟩ rfl rfl hl.1 rfl (lv_room (Nat.le_of_ble_eq_true rfl)) dX11_putLocal_108 ⟨(show 0 + (PC ws + (0)) ≤ PC ws + (0) from (by have e0 : (0 : Int32).toInt = 0 := (by decide); omega)), (show 0 + (PS ws + (0)) ≤ PS ws + (0) from (by have e0 : (0 : Int32).toInt = 0 := (by decide); omega))⟩) hS (fun q _ h => hFc q h) hFc (fun  ws_77 t9 H1 locs ht9 hvm9 hw9 hB9 hz9 hk9 hS => ?_)
      obtain ⟨E_78, Fr_79, hG, hP1, hD1, dc_80, ds_81, hLd, hdc_80, hds_81⟩ := hB9
      rw [ht9] at hLd
      refine W_tight (hL0.tr hLd).1 (hL0.tr hLd).2.1 ?_
      clear hL0 hLd
      have hP : va_P (gD g) cl0 ws_77 H1 := by rw [← ht9]; exact hP1
      have hD : va_D A ws_77 := hD1.weaken (fun _ _ _ h => hFc _ h)
      have kf_82 := hw9
      clear hP1 hD1 hz9 hk9 hvm9 ht9 hw9
      generalize H1 = H at hP hS ⊢
      have aa_83 := a_r3_71
      have aa_84 := a_r4_71
      have aa_85 := a_r10_71
      have aa_86 := a_r11_71
      have aa_87 := a_r12_71
      have aa_88 := a_r13_71
      have aa_89 := a_r16_71
      have aa_90 := a_r17_71
      have aa_91 := a_r0_73
      have o_h0 := E_78.1 _ _ o_h0
      have tq_92 : wcP ws_77 h0 0 (wb + 1) wc := wcP_1 hDW hG Fr_79 (by decide) (by decide) (by decide) (by decide) hkW rfl (fun k9 ci9 fs9 h9 c9 e9 => by have w9 := kf_82 _ _ _ h9 c9 e9; omega) tk0
      refine lv_goto (tgt := 153) hx hb dX11_putLocal_111 (by decide) ?_
      refine W_led (fun hLd => ?_)
      have hcl : 0 + dc_80 + PC ws_77 ≤ PC ws + (0) := (by omega)
      have hsl : 0 + ds_81 + PS ws_77 ≤ PS ws + (0) := (by omega)
      refine W.widen (k := PC ws + (0)) (n := PS ws + (0)) (by omega) (by omega) ?_
      have tq_93 : wcP ws_77 h0 0 (wb + 2) (wc + 0) := wcP_le (by omega) (by omega) (by omega) tq_92
      exact W.vret hx hb hr (fun t9 ht9 hW9 => ⟨⟨ws_77, rfl, ⟨trivial, tq_93⟩, ⟨E_78, (gF.mo (F' := [(0, 0), (0, 1)]) (C' := [(0, 0), (6, 0)]) (S' := none) Fr_79 (fun _ h => h) (fun _ h => h) (Or.inl rfl)), hG, by rw [ht9]; exact hP, hD, _, _, by rw [ht9]; exact hLd, hcl, hsl⟩⟩, hS.F ht9⟩) hS.2.2 dX11_putLocal_153
    have K_23_114 : W p l e (headSpec (wt yX11_putLocal cX11_putLocal 3 none) ({ frames := 3, cells := PC ws + (0), slots := PS ws + (0), locals := 83 })).room s m ([.ref h0, .int x1, .int x2] : List Value).toArray below meth c s.heap [] (0) (0) (MQ below (va_Qv (fun (u9 : va_W) => (True) ∧ (wcP u9 h0 0 (wb + 2) (wc + 0))) (gQ2 g [(0, 0), (0, 1)] [(0, 0), (6, 0)] none A ws s.heap (0) (0)) A) ([.ref h0, .int x1, .int x2] : List Value).toArray s (PC ws + (0)) (PS ws + (0)) A) (F0 m 114 ls []) := by
      refine lv_aload_n hx hb dX11_putLocal_114 rfl (lv_at hl 0 rfl) ?_
      obtain ⟨k_94, fs9, hk_94⟩ := gC_of o_h0
      obtain ⟨r0_94, r1_94, r2_94, r3_94, n3_94, r4_94, n4_94, c5_94, c6_94, v7_94, c8_94, c9_94, r10_94, n10_94, r11_94, n11_94, r12_94, n12_94, r13_94, n13_94, r14_94, v15_94, r16_94, n16_94, r17_94, n17_94, rfl, o_r0_94, o_r1_94, o_r2_94, a_r3_94, f4_94, a_r4_94, f6_94, hz_c6_94, o_v7_94, a_r10_94, f10_94, a_r11_94, f12_94, a_r12_94, f14_94, a_r13_94, f16_94, o_r14_94, o_v15_94, a_r16_94, f20_94, a_r17_94, f22_94, f23_94, f24_94, f25_94, f26_94, f27_94, f28_94, -⟩ := (hG.1 _ _ _ _ hk_94).hX11 rfl
      refine va_get (D := gD g) (ci := 10) (v := .ref r1_94) (C := RX11) (T := TX11) (N := 18) hx hb hts inX11 hown hK hP k_94 hk_94 rfl 1 (by decide) (hts _ kw_94) (fun _ h9 => h9) rfl dX11_putLocal_115 ?_
      refine lv_bipush (v := 59) hx hb dX11_putLocal_118 (by decide) ?_
      refine lv_iload_n hx hb dX11_putLocal_120 rfl (lv_at hl 2 rfl) ?_
      refine lv_iadd hx hb dX11_putLocal_121 ?_
      refine lv_topi (fun z_95 ez_95 => ?_)
      obtain ⟨k_96, fs9, hk_96⟩ := gC_of o_r1_94
      obtain ⟨r0_96, n0_96, c1_96, rfl, a_r0_96, f1_96, f2_96, f3_96, f4_96, f5_96, -⟩ := (hG.1 _ _ _ _ hk_96).hX0 rfl
      have wb_97 : c1_96.toInt ≤ wb := wcP_u1 hD hk_94 rfl hk_96 rfl tk0
      have hkW := hk_94
      have hDW := hD
      have hFc := gfree hD hS hA
      have pg_98 := ge_10_17 hD hk_94 rfl a_r17_94
      have pg_99 := ge_0_0 hD hk_96 rfl a_r0_96
      refine W_led (fun hL0 => ?_)
      refine va_callv (va_runV (As := [.int z_95]) (rest := []) ⟨hx, hb, hml, hown, hts⟩ (m_X0_put l g s.heap ws r1_94 (z_95) (c1_96) hG o_r1_94 (gP_of hD hk_96 (fun q90 e90 => by cases e90; exact (by have q_f2_96 := f2_96; have q_f3_96 := f3_96; have q_wb_97 := wb_97; have q_pwc := pwc; have q_f1_96 := f1_96; have q_f4_96 := f4_96; have q_f5_96 := f5_96; have g_c1_96 := i_rg c1_96; omega))) (gP_of hD hk_96 (fun q90 e90 => by cases e90; exact (by have q_f2_96 := f2_96; have q_f3_96 := f3_96; have q_wb_97 := wb_97; have q_pwc := pwc; have q_f1_96 := f1_96; have q_f4_96 := f4_96; have q_f5_96 := f5_96; have g_c1_96 := i_rg c1_96; omega)))) (cwV 1 hts (gd_V kw_140 kw_13 kw_14 kw_3 kw_12) rfl rfl rfl (by decide +kernel) ⟨Nat.le_of_ble_eq_true rfl, Nat.le_of_ble_eq_true rfl⟩) ⟨gblindH, va_recv hK hP (ci := 0) (q0 := k_96) rfl hk_96, fun U hU hW9 => gmkH hU hW9 hP hK hD hex hE hS hFc⟩ rfl rfl hl.1 rfl (lv_room (Nat.le_of_ble_eq_true rfl)) dX11_putLocal_122 ⟨(show 0 + (PC ws + (0)) ≤ PC ws + (0) from (by have e0 : (0 : Int32).toInt = 0 := (by decide); omega)), (show 0 + (PS ws + (0)) ≤ PS ws + (0) from (by have e0 : (0 : Int32).toInt = 0 := (by decide); omega))⟩) hS (fun q _ h => hFc q h) hFc (fun  ws_100 t9 H1 locs ht9 hvm9 hw9 hB9 hz9 hk9 hS => ?_)
      obtain ⟨E_101, Fr_102, hG, hP1, hD1, dc_103, ds_104, hLd, hdc_103, hds_104⟩ := hB9
      rw [ht9] at hLd
      refine W_tight (hL0.tr hLd).1 (hL0.tr hLd).2.1 ?_
      clear hL0 hLd
      have hP : va_P (gD g) cl0 ws_100 H1 := by rw [← ht9]; exact hP1
      have hD : va_D A ws_100 := hD1.weaken (fun _ _ _ h => hFc _ h)
      have kf_105 := hw9
      clear hP1 hD1 hz9 hk9 hvm9 ht9 hw9
      generalize H1 = H at hP hS ⊢
      have aa_106 := a_r3_94
      have aa_107 := a_r4_94
      have aa_108 := a_r10_94
      have aa_109 := a_r11_94
      have aa_110 := a_r12_94
      have aa_111 := a_r13_94
      have aa_112 := a_r16_94
      have aa_113 := a_r17_94
      have aa_114 := a_r0_96
      have o_h0 := E_101.1 _ _ o_h0
      have tq_115 : wcP ws_100 h0 0 (wb + 1) wc := wcP_1 hDW hG Fr_102 (by decide) (by decide) (by decide) (by decide) hkW rfl (fun k9 ci9 fs9 h9 c9 e9 => by have w9 := kf_105 _ _ _ h9 c9 e9; omega) tk0
      refine lv_goto (tgt := 153) hx hb dX11_putLocal_125 (by decide) ?_
      refine W_led (fun hLd => ?_)
      have hcl : 0 + dc_103 + PC ws_100 ≤ PC ws + (0) := (by omega)
      have hsl : 0 + ds_104 + PS ws_100 ≤ PS ws + (0) := (by omega)
      refine W.widen (k := PC ws + (0)) (n := PS ws + (0)) (by omega) (by omega) ?_
      have tq_116 : wcP ws_100 h0 0 (wb + 2) (wc + 0) := wcP_le (by omega) (by omega) (by omega) tq_115
      exact W.vret hx hb hr (fun t9 ht9 hW9 => ⟨⟨ws_100, rfl, ⟨trivial, tq_116⟩, ⟨E_101, (gF.mo (F' := [(0, 0), (0, 1)]) (C' := [(0, 0), (6, 0)]) (S' := none) Fr_102 (fun _ h => h) (fun _ h => h) (Or.inl rfl)), hG, by rw [ht9]; exact hP, hD, _, _, by rw [ht9]; exact hLd, hcl, hsl⟩⟩, hS.F ht9⟩) hS.2.2 dX11_putLocal_153
    have K_23_128 : W p l e (headSpec (wt yX11_putLocal cX11_putLocal 3 none) ({ frames := 3, cells := PC ws + (0), slots := PS ws + (0), locals := 83 })).room s m ([.ref h0, .int x1, .int x2] : List Value).toArray below meth c s.heap [] (0) (0) (MQ below (va_Qv (fun (u9 : va_W) => (True) ∧ (wcP u9 h0 0 (wb + 2) (wc + 0))) (gQ2 g [(0, 0), (0, 1)] [(0, 0), (6, 0)] none A ws s.heap (0) (0)) A) ([.ref h0, .int x1, .int x2] : List Value).toArray s (PC ws + (0)) (PS ws + (0)) A) (F0 m 128 ls []) := by
      refine lv_aload_n hx hb dX11_putLocal_128 rfl (lv_at hl 0 rfl) ?_
      obtain ⟨k_117, fs9, hk_117⟩ := gC_of o_h0
      obtain ⟨r0_117, r1_117, r2_117, r3_117, n3_117, r4_117, n4_117, c5_117, c6_117, v7_117, c8_117, c9_117, r10_117, n10_117, r11_117, n11_117, r12_117, n12_117, r13_117, n13_117, r14_117, v15_117, r16_117, n16_117, r17_117, n17_117, rfl, o_r0_117, o_r1_117, o_r2_117, a_r3_117, f4_117, a_r4_117, f6_117, hz_c6_117, o_v7_117, a_r10_117, f10_117, a_r11_117, f12_117, a_r12_117, f14_117, a_r13_117, f16_117, o_r14_117, o_v15_117, a_r16_117, f20_117, a_r17_117, f22_117, f23_117, f24_117, f25_117, f26_117, f27_117, f28_117, -⟩ := (hG.1 _ _ _ _ hk_117).hX11 rfl
      refine va_get (D := gD g) (ci := 10) (v := .ref r1_117) (C := RX11) (T := TX11) (N := 18) hx hb hts inX11 hown hK hP k_117 hk_117 rfl 1 (by decide) (hts _ kw_94) (fun _ h9 => h9) rfl dX11_putLocal_129 ?_
      refine lv_bipush (v := 63) hx hb dX11_putLocal_132 (by decide) ?_
      refine lv_iload_n hx hb dX11_putLocal_134 rfl (lv_at hl 2 rfl) ?_
      refine lv_iadd hx hb dX11_putLocal_135 ?_
      refine lv_topi (fun z_118 ez_118 => ?_)
      obtain ⟨k_119, fs9, hk_119⟩ := gC_of o_r1_117
      obtain ⟨r0_119, n0_119, c1_119, rfl, a_r0_119, f1_119, f2_119, f3_119, f4_119, f5_119, -⟩ := (hG.1 _ _ _ _ hk_119).hX0 rfl
      have wb_120 : c1_119.toInt ≤ wb := wcP_u1 hD hk_117 rfl hk_119 rfl tk0
      have hkW := hk_117
      have hDW := hD
      have hFc := gfree hD hS hA
      have pg_121 := ge_10_17 hD hk_117 rfl a_r17_117
      have pg_122 := ge_0_0 hD hk_119 rfl a_r0_119
      refine W_led (fun hL0 => ?_)
      refine va_callv (va_runV (As := [.int z_118]) (rest := []) ⟨hx, hb, hml, hown, hts⟩ (m_X0_put l g s.heap ws r1_117 (z_118) (c1_119) hG o_r1_117 (gP_of hD hk_119 (fun q90 e90 => by cases e90; exact (by have q_f2_119 := f2_119; have q_f3_119 := f3_119; have q_wb_120 := wb_120; have q_pwc := pwc; have q_f1_119 := f1_119; have q_f4_119 := f4_119; have q_f5_119 := f5_119; have g_c1_119 := i_rg c1_119; omega))) (gP_of hD hk_119 (fun q90 e90 => by cases e90; exact (by have q_f2_119 := f2_119; have q_f3_119 := f3_119; have q_wb_120 := wb_120; have q_pwc := pwc; have q_f1_119 := f1_119; have q_f4_119 := f4_119; have q_f5_119 := f5_119; have g_c1_119 := i_rg c1_119; omega)))) (cwV 1 hts (gd_V kw_140 kw_13 kw_14 kw_3 kw_12) rfl rfl rfl (by decide +kernel) ⟨Nat.le_of_ble_eq_true rfl, Nat.le_of_ble_eq_true rfl⟩) ⟨gblindH, va_recv hK hP (ci := 0) (q0 := k_119) rfl hk_119, fun U hU hW9 => gmkH hU hW9 hP hK hD hex hE hS hFc⟩ rfl rfl hl.1 rfl (lv_room (Nat.le_of_ble_eq_true rfl)) dX11_putLocal_136 ⟨(show 0 + (PC ws + (0)) ≤ PC ws + (0) from (by have e0 : (0 : Int32).toInt = 0 := (by decide); omega)), (show 0 + (PS ws + (0)) ≤ PS ws + (0) from (by have e0 : (0 : Int32).toInt = 0 := (by decide); omega))⟩) hS (fun q _ h => hFc q h) hFc (fun  ws_123 t9 H1 locs ht9 hvm9 hw9 hB9 hz9 hk9 hS => ?_)
      obtain ⟨E_124, Fr_125, hG, hP1, hD1, dc_126, ds_127, hLd, hdc_126, hds_127⟩ := hB9
      rw [ht9] at hLd
      refine W_tight (hL0.tr hLd).1 (hL0.tr hLd).2.1 ?_
      clear hL0 hLd
      have hP : va_P (gD g) cl0 ws_123 H1 := by rw [← ht9]; exact hP1
      have hD : va_D A ws_123 := hD1.weaken (fun _ _ _ h => hFc _ h)
      have kf_128 := hw9
      clear hP1 hD1 hz9 hk9 hvm9 ht9 hw9
      generalize H1 = H at hP hS ⊢
      have aa_129 := a_r3_117
      have aa_130 := a_r4_117
      have aa_131 := a_r10_117
      have aa_132 := a_r11_117
      have aa_133 := a_r12_117
      have aa_134 := a_r13_117
      have aa_135 := a_r16_117
      have aa_136 := a_r17_117
      have aa_137 := a_r0_119
      have o_h0 := E_124.1 _ _ o_h0
      have tq_138 : wcP ws_123 h0 0 (wb + 1) wc := wcP_1 hDW hG Fr_125 (by decide) (by decide) (by decide) (by decide) hkW rfl (fun k9 ci9 fs9 h9 c9 e9 => by have w9 := kf_128 _ _ _ h9 c9 e9; omega) tk0
      refine lv_goto (tgt := 153) hx hb dX11_putLocal_139 (by decide) ?_
      refine W_led (fun hLd => ?_)
      have hcl : 0 + dc_126 + PC ws_123 ≤ PC ws + (0) := (by omega)
      have hsl : 0 + ds_127 + PS ws_123 ≤ PS ws + (0) := (by omega)
      refine W.widen (k := PC ws + (0)) (n := PS ws + (0)) (by omega) (by omega) ?_
      have tq_139 : wcP ws_123 h0 0 (wb + 2) (wc + 0) := wcP_le (by omega) (by omega) (by omega) tq_138
      exact W.vret hx hb hr (fun t9 ht9 hW9 => ⟨⟨ws_123, rfl, ⟨trivial, tq_139⟩, ⟨E_124, (gF.mo (F' := [(0, 0), (0, 1)]) (C' := [(0, 0), (6, 0)]) (S' := none) Fr_125 (fun _ h => h) (fun _ h => h) (Or.inl rfl)), hG, by rw [ht9]; exact hP, hD, _, _, by rw [ht9]; exact hLd, hcl, hsl⟩⟩, hS.F ht9⟩) hS.2.2 dX11_putLocal_153
    by_cases c9_21 : (x1 : Int32).toInt = 21
    · exact lv_lookup (off := 49) (tgt := 72) hx hb dX11_putLocal_23 (by decide) (by rw [c9_21]; decide) (by decide) K_23_72
    by_cases c9_22 : (x1 : Int32).toInt = 22
    · exact lv_lookup (off := 63) (tgt := 86) hx hb dX11_putLocal_23 (by decide) (by rw [c9_22]; decide) (by decide) K_23_86
    by_cases c9_25 : (x1 : Int32).toInt = 25
    · exact lv_lookup (off := 77) (tgt := 100) hx hb dX11_putLocal_23 (by decide) (by rw [c9_25]; decide) (by decide) K_23_100
    by_cases c9_54 : (x1 : Int32).toInt = 54
    · exact lv_lookup (off := 91) (tgt := 114) hx hb dX11_putLocal_23 (by decide) (by rw [c9_54]; decide) (by decide) K_23_114
    by_cases c9_55 : (x1 : Int32).toInt = 55
    · exact lv_lookup (off := 105) (tgt := 128) hx hb dX11_putLocal_23 (by decide) (by rw [c9_55]; decide) (by decide) K_23_128
    exact lv_lookup (off := 119) (tgt := 142) hx hb dX11_putLocal_23 (by decide) (lk_cons c9_21 (lk_cons c9_22 (lk_cons c9_25 (lk_cons c9_54 (lk_cons c9_55 lk_nil))))) (by decide) K_23_142
  · refine lv_aload_n hx hb dX11_putLocal_5 rfl (lv_at hl 0 rfl) ?_
    obtain ⟨k_140, fs9, hk_140⟩ := gC_of o_h0
    obtain ⟨r0_140, r1_140, r2_140, r3_140, n3_140, r4_140, n4_140, c5_140, c6_140, v7_140, c8_140, c9_140, r10_140, n10_140, r11_140, n11_140, r12_140, n12_140, r13_140, n13_140, r14_140, v15_140, r16_140, n16_140, r17_140, n17_140, rfl, o_r0_140, o_r1_140, o_r2_140, a_r3_140, f4_140, a_r4_140, f6_140, hz_c6_140, o_v7_140, a_r10_140, f10_140, a_r11_140, f12_140, a_r12_140, f14_140, a_r13_140, f16_140, o_r14_140, o_v15_140, a_r16_140, f20_140, a_r17_140, f22_140, f23_140, f24_140, f25_140, f26_140, f27_140, f28_140, -⟩ := (hG.1 _ _ _ _ hk_140).hX11 rfl
    refine va_get (D := gD g) (ci := 10) (v := .ref r1_140) (C := RX11) (T := TX11) (N := 18) hx hb hts inX11 hown hK hP k_140 hk_140 rfl 1 (by decide) (hts _ kw_94) (fun _ h9 => h9) rfl dX11_putLocal_6 ?_
    refine lv_iload_n hx hb dX11_putLocal_9 rfl (lv_at hl 1 rfl) ?_
    obtain ⟨k_141, fs9, hk_141⟩ := gC_of o_r1_140
    obtain ⟨r0_141, n0_141, c1_141, rfl, a_r0_141, f1_141, f2_141, f3_141, f4_141, f5_141, -⟩ := (hG.1 _ _ _ _ hk_141).hX0 rfl
    have wb_142 : c1_141.toInt ≤ wb := wcP_u1 hD hk_140 rfl hk_141 rfl tk0
    have hkW := hk_140
    have hDW := hD
    have hFc := gfree hD hS hA
    have pg_143 := ge_10_17 hD hk_140 rfl a_r17_140
    have pg_144 := ge_0_0 hD hk_141 rfl a_r0_141
    refine W_led (fun hL0 => ?_)
    refine va_callv (va_runV (As := [.int x1]) (rest := []) ⟨hx, hb, hml, hown, hts⟩ (m_X0_put l g s.heap ws r1_140 (x1) (c1_141) hG o_r1_140 (gP_of hD hk_141 (fun q90 e90 => by cases e90; exact (by have q_f2_141 := f2_141; have q_f3_141 := f3_141; have q_wb_142 := wb_142; have q_pwc := pwc; have q_f1_141 := f1_141; have q_f4_141 := f4_141; have q_f5_141 := f5_141; have g_c1_141 := i_rg c1_141; omega))) (gP_of hD hk_141 (fun q90 e90 => by cases e90; exact (by have q_f2_141 := f2_141; have q_f3_141 := f3_141; have q_wb_142 := wb_142; have q_pwc := pwc; have q_f1_141 := f1_141; have q_f4_141 := f4_141; have q_f5_141 := f5_141; have g_c1_141 := i_rg c1_141; omega)))) (cwV 1 hts (gd_V kw_140 kw_13 kw_14 kw_3 kw_12) rfl rfl rfl (by decide +kernel) ⟨Nat.le_of_ble_eq_true rfl, Nat.le_of_ble_eq_true rfl⟩) ⟨gblindH, va_recv hK hP (ci := 0) (q0 := k_141) rfl hk_141, fun U hU hW9 => gmkH hU hW9 hP hK hD hex hE hS hFc⟩ rfl rfl hl.1 rfl (lv_room (Nat.le_of_ble_eq_true rfl)) dX11_putLocal_10 ⟨(show 0 + (PC ws + (0)) ≤ PC ws + (0) from (by have e0 : (0 : Int32).toInt = 0 := (by decide); omega)), (show 0 + (PS ws + (0)) ≤ PS ws + (0) from (by have e0 : (0 : Int32).toInt = 0 := (by decide); omega))⟩) hS (fun q _ h => hFc q h) hFc (fun  ws_145 t9 H1 locs ht9 hvm9 hw9 hB9 hz9 hk9 hS => ?_)
    obtain ⟨E_146, Fr_147, hG, hP1, hD1, dc_148, ds_149, hLd, hdc_148, hds_149⟩ := hB9
    rw [ht9] at hLd
    refine W_tight (hL0.tr hLd).1 (hL0.tr hLd).2.1 ?_
    clear hL0 hLd
    have hP : va_P (gD g) cl0 ws_145 H1 := by rw [← ht9]; exact hP1
    have hD : va_D A ws_145 := hD1.weaken (fun _ _ _ h => hFc _ h)
    have kf_150 := hw9
    clear hP1 hD1 hz9 hk9 hvm9 ht9 hw9
    generalize H1 = H at hP hS ⊢
    have aa_151 := a_r3_140
    have aa_152 := a_r4_140
    have aa_153 := a_r10_140
    have aa_154 := a_r11_140
    have aa_155 := a_r12_140
    have aa_156 := a_r13_140
    have aa_157 := a_r16_140
    have aa_158 := a_r17_140
    have aa_159 := a_r0_141
    have o_h0 := E_146.1 _ _ o_h0
    have tq_160 : wcP ws_145 h0 0 (wb + 1) wc := wcP_1 hDW hG Fr_147 (by decide) (by decide) (by decide) (by decide) hkW rfl (fun k9 ci9 fs9 h9 c9 e9 => by have w9 := kf_150 _ _ _ h9 c9 e9; omega) tk0
    refine lv_aload_n hx hb dX11_putLocal_13 rfl (lv_at hl 0 rfl) ?_
    obtain ⟨fs9, hk_161, hq_161⟩ := ((gF.a (F' := [(0, 0), (0, 1)]) Fr_147 (fun _ h => h))) _ _ _ hk_140
    obtain ⟨r0_161, r1_161, r2_161, r3_161, n3_161, r4_161, n4_161, c5_161, c6_161, v7_161, c8_161, c9_161, r10_161, n10_161, r11_161, n11_161, r12_161, n12_161, r13_161, n13_161, r14_161, v15_161, r16_161, n16_161, r17_161, n17_161, rfl, o_r0_161, o_r1_161, o_r2_161, a_r3_161, f4_161, a_r4_161, f6_161, hz_c6_161, o_v7_161, a_r10_161, f10_161, a_r11_161, f12_161, a_r12_161, f14_161, a_r13_161, f16_161, o_r14_161, o_v15_161, a_r16_161, f20_161, a_r17_161, f22_161, f23_161, f24_161, f25_161, f26_161, f27_161, f28_161, -⟩ := (hG.1 _ _ _ _ hk_161).hX11 rfl
    obtain rfl := fe_r (hq_161 1 (by decide))
    have o_r1_140 := o_r1_161
    obtain rfl := fe_q (hq_161 7 (by decide))
    have o_v7_140 := o_v7_161
    obtain rfl := fe_q (hq_161 15 (by decide))
    have o_v15_140 := o_v15_161
    refine va_get (D := gD g) (ci := 10) (v := .ref r1_140) (C := RX11) (T := TX11) (N := 18) hx hb hts inX11 hown hK hP k_140 hk_161 rfl 1 (by decide) (hts _ kw_94) (fun _ h9 => h9) rfl dX11_putLocal_14 ?_
    refine lv_iload_n hx hb dX11_putLocal_17 rfl (lv_at hl 2 rfl) ?_
    obtain ⟨fs9, hk_162, hq_162⟩ := ((gF.a (F' := [(0, 0), (0, 1)]) Fr_147 (fun _ h => h))) _ _ _ hk_141
    obtain ⟨r0_162, n0_162, c1_162, rfl, a_r0_162, f1_162, f2_162, f3_162, f4_162, f5_162, -⟩ := (hG.1 _ _ _ _ hk_162).hX0 rfl
    have kq_163 := kf_150 _ _ _ hk_162 _ rfl
    have wb_164 : c1_162.toInt ≤ (wb + 1) := wcP_u1 hD hk_161 rfl hk_162 rfl tq_160
    have hkW := hk_161
    have hDW := hD
    have hFc := gfree hD hS hA
    have pg_165 := ge_10_17 hD hk_161 rfl a_r17_161
    have pg_166 := ge_0_0 hD hk_162 rfl a_r0_162
    refine W_led (fun hL0 => ?_)
    refine va_callv (va_runV (As := [.int x2]) (rest := []) ⟨hx, hb, hml, hown, hts⟩ (m_X0_put l g H ws_145 r1_140 (x2) (c1_162) hG o_r1_140 (gP_of hD hk_162 (fun q90 e90 => by cases e90; exact (by have q_f2_162 := f2_162; have q_f3_162 := f3_162; have q_kq_163 := kq_163; have q_wb_164 := wb_164; have q_pwc := pwc; have q_f2_141 := f2_141; have q_f3_141 := f3_141; have q_wb_142 := wb_142; have q_f1_162 := f1_162; have q_f4_162 := f4_162; have q_f5_162 := f5_162; have q_f1_141 := f1_141; have q_f4_141 := f4_141; have q_f5_141 := f5_141; have g_c1_141 := i_rg c1_141; have g_c1_162 := i_rg c1_162; omega))) (gP_of hD hk_162 (fun q90 e90 => by cases e90; exact (by have q_f2_162 := f2_162; have q_f3_162 := f3_162; have q_kq_163 := kq_163; have q_wb_164 := wb_164; have q_pwc := pwc; have q_f2_141 := f2_141; have q_f3_141 := f3_141; have q_wb_142 := wb_142; have q_f1_162 := f1_162; have q_f4_162 := f4_162; have q_f5_162 := f5_162; have q_f1_141 := f1_141; have q_f4_141 := f4_141; have q_f5_141 := f5_141; have g_c1_141 := i_rg c1_141; have g_c1_162 := i_rg c1_162; omega)))) (cwV 1 hts (gd_V kw_140 kw_13 kw_14 kw_3 kw_12) rfl rfl rfl (by decide +kernel) ⟨Nat.le_of_ble_eq_true rfl, Nat.le_of_ble_eq_true rfl⟩) ⟨gblindH, va_recv hK hP (ci := 0) (q0 := k_141) rfl hk_162, fun U hU hW9 => gmkH hU hW9 hP hK hD hex hE hS hFc⟩ rfl rfl hl.1 rfl (lv_room (Nat.le_of_ble_eq_true rfl)) dX11_putLocal_18 ⟨(show 0 + dc_148 + (PC ws_145 + (0)) ≤ PC ws + (0) from (by have e0 : (0 : Int32).toInt = 0 := (by decide); omega)), (show 0 + ds_149 + (PS ws_145 + (0)) ≤ PS ws + (0) from (by have e0 : (0 : Int32).toInt = 0 := (by decide); omega))⟩) hS (fun q _ h => hFc q h) hFc (fun  ws_167 t9 H1 locs ht9 hvm9 hw9 hB9 hz9 hk9 hS => ?_)
    obtain ⟨E_168, Fr_169, hG, hP1, hD1, dc_170, ds_171, hLd, hdc_170, hds_171⟩ := hB9
    rw [ht9] at hLd
    refine W_tight (hL0.tr hLd).1 (hL0.tr hLd).2.1 ?_
    clear hL0 hLd
    have hP : va_P (gD g) cl0 ws_167 H1 := by rw [← ht9]; exact hP1
    have hD : va_D A ws_167 := hD1.weaken (fun _ _ _ h => hFc _ h)
    have kf_172 := hw9
    clear hP1 hD1 hz9 hk9 hvm9 ht9 hw9
    generalize H1 = H at hP hS ⊢
    have aa_173 := a_r3_161
    have aa_174 := a_r4_161
    have aa_175 := a_r10_161
    have aa_176 := a_r11_161
    have aa_177 := a_r12_161
    have aa_178 := a_r13_161
    have aa_179 := a_r16_161
    have aa_180 := a_r17_161
    have aa_181 := a_r0_162
    have o_h0 := E_168.1 _ _ o_h0
    have tq_182 : wcP ws_167 h0 0 ((wb + 1) + 1) wc := wcP_1 hDW hG Fr_169 (by decide) (by decide) (by decide) (by decide) hkW rfl (fun k9 ci9 fs9 h9 c9 e9 => by have w9 := kf_172 _ _ _ h9 c9 e9; omega) tq_160
    refine W_led (fun hLd => ?_)
    have hcl : 0 + dc_148 + dc_170 + PC ws_167 ≤ PC ws + (0) := (by omega)
    have hsl : 0 + ds_149 + ds_171 + PS ws_167 ≤ PS ws + (0) := (by omega)
    refine W.widen (k := PC ws + (0)) (n := PS ws + (0)) (by omega) (by omega) ?_
    have tq_183 : wcP ws_167 h0 0 (wb + 2) (wc + 0) := wcP_le (by omega) (by omega) (by omega) tq_182
    exact W.vret hx hb hr (fun t9 ht9 hW9 => ⟨⟨ws_167, rfl, ⟨trivial, tq_183⟩, ⟨(E_146.tr E_168), (gF.tr (gF.mo (F' := [(0, 0), (0, 1)]) (C' := [(0, 0), (6, 0)]) (S' := none) Fr_147 (fun _ h => h) (fun _ h => h) (Or.inl rfl)) (gF.mo (F' := [(0, 0), (0, 1)]) (C' := [(0, 0), (6, 0)]) (S' := none) Fr_169 (fun _ h => h) (fun _ h => h) (Or.inl rfl))), hG, by rw [ht9]; exact hP, hD, _, _, by rw [ht9]; exact hLd, hcl, hsl⟩⟩, hS.F ht9⟩) hS.2.2 dX11_putLocal_21
set_option maxHeartbeats 1000000 in
set_option maxRecDepth 100000 in
theorem m_X11_putInt (l : Launch) (g : Gm) (H0 : Heap) (ws : va_W) (h0 : Nat) (x1 : Int32) (x2 : Int32) (wb : Int) (wc : Int) (hG : Good g ws) (o_h0 : gC ws h0 10) (tk0 : wcP ws h0 0 wb wc) (pwc : wb + 3 ≤ 131072 ∧ wc + 0 ≤ 131072) : Met l yX11_putInt (wt yX11_putInt cX11_putInt 3 none) ({ frames := 4, cells := PC ws + (0), slots := PS ws + (0), locals := 104 }) (va_Pc [.ref h0, .int x1, .int x2] (st_H g H0 ws)) (va_Qv (fun (u9 : va_W) => (True) ∧ (wcP u9 h0 0 (wb + 3) (wc + 0))) (gQ2 g [(0, 0), (0, 1)] [(0, 0), (6, 0)] none (va_A ws H0.size) ws H0 (0) (0)) (va_A ws H0.size)) (PC ws + (0)) (PS ws + (0)) (va_A ws H0.size) := by
  refine Met.ofW (cc := cX11_putInt) (maxL := 3) (ret := none) (by decide) rfl ?_
  intro p e s m args below meth c s₁ B hml hv
  obtain ⟨rfl, hH0, hsz, hP, hK, hD0, hex, hE⟩ := hv
  have hx := B.exec
  have hb := B.bytes
  have hr := B.returns
  have hts0 := atoms_spec (ws := wt yX11_putInt cX11_putInt 3 none) B.pre
  have hts : ∀ w ∈ tb, w.before _ s = true := fun w h => hts0 w (List.mem_cons_of_mem _ h)
  have hown : s.vm.findClass RX11 = some m.cls := findClass_of_methodNamed B.named
  subst hH0
  have hD := hD0.self (sz := s.heap.size)
  generalize hAe : va_A ws s.heap.size = A at hD hE ⊢
  have hA : ∀ q : Nat, s.heap.size ≤ q → A q := fun q h => by rw [← hAe]; exact Or.inr h
  have hS : va_S A s.heap s.heap [] := va_S.rf
  have hl := lv_entry ([.ref h0, .int x1, .int x2]) (n := 3) (Nat.le_of_ble_eq_true rfl)
  rw [lg_entry_eq]
  generalize (lg_sl ([.ref h0, .int x1, .int x2]) ++ List.replicate (3 - (lg_sl ([.ref h0, .int x1, .int x2])).length) Slot.unset).toArray = ls at hl ⊢
  have hl : lv_has ls 3 [(0, .ref h0), (1, .int x1), (2, .int x2)] := hl
  refine lv_iload_n hx hb dX11_putInt_0 rfl (lv_at hl 1 rfl) ?_
  refine lv_iconst (v := (-1)) hx hb dX11_putInt_1 (by decide) ?_
  refine lv_icmp_lt (tgt := 23) hx hb dX11_putInt_2 (by decide) (fun c_1 => ?_) (fun c_1 => ?_)
  · refine lv_iload_n hx hb dX11_putInt_23 rfl (lv_at hl 1 rfl) ?_
    obtain ⟨z_2, ez_2⟩ : ∃ y : Int64, (x1 : Int32).toInt64 = y := ⟨_, rfl⟩
    refine lv_i2l (v := z_2) hx hb dX11_putInt_24 ez_2 ?_
    have hFc := gfree hD hS hA
    refine va_calli (va_runS (As := [.long z_2]) (rest := []) ⟨hx, hb, hml, hown, hts⟩ (m_X11_isByte l g s.heap.size ws (z_2) hG ) (va_cwS 1 hts (gd_S kw_204 kw_174 kw_83 kw_173) rfl rfl rfl (by decide +kernel) ⟨Nat.le_of_ble_eq_true rfl, Nat.le_of_ble_eq_true rfl⟩) ⟨gblind, fun U hU hW9 => gmk hU hW9 hP hK hD hex hE hS hFc⟩ rfl rfl hl.1 rfl (lv_room (Nat.le_of_ble_eq_true rfl)) dX11_putInt_25 ⟨(show 0 + 0 ≤ PC ws + (0) from (by have e0 : (0 : Int32).toInt = 0 := (by decide); omega)), (show 0 + 0 ≤ PS ws + (0) from (by have e0 : (0 : Int32).toInt = 0 := (by decide); omega))⟩) hS (fun q _ h => hFc q h) hFc (fun r_3 u9 t9 H1 locs ht9 hvm9 hw9 hB9 hz9 hk9 hS => ?_)
    have hP : va_P (gD g) cl0 ws H1 := by rw [← ht9]; exact hB9.1
    have hz_r_3 : r_3 = 0 ∨ r_3 = 1 := hw9
    clear hB9 hz9 hk9 hvm9 ht9 hw9
    generalize H1 = H at hP hS ⊢
    refine lv_if_eq (tgt := 51) hx hb dX11_putInt_28 (by decide) (fun c_4 => ?_) (fun c_4 => ?_)
    · refine lv_iload_n hx hb dX11_putInt_51 rfl (lv_at hl 1 rfl) ?_
      refine lv_iload_n hx hb dX11_putInt_52 rfl (lv_at hl 1 rfl) ?_
      obtain ⟨z_5, ez_5⟩ : ∃ y : Int32, (x1 : Int32).toInt16.toInt32 = y := ⟨_, rfl⟩
      refine lv_i2s (v := z_5) hx hb dX11_putInt_53 ez_5 ?_
      refine lv_icmp_ne (tgt := 77) hx hb dX11_putInt_54 (by decide) (fun c_6 => ?_) (fun c_6 => ?_)
      · refine lv_iload_n hx hb dX11_putInt_77 rfl (lv_at hl 2 rfl) ?_
        refine lv_sipush (v := 256) hx hb dX11_putInt_78 (by decide) ?_
        refine lv_icmp_ge (tgt := 104) hx hb dX11_putInt_81 (by decide) (fun c_7 => ?_) (fun c_7 => ?_)
        · refine lv_aload_n hx hb dX11_putInt_104 rfl (lv_at hl 0 rfl) ?_
          obtain ⟨k_8, fs9, hk_8⟩ := gC_of o_h0
          obtain ⟨r0_8, r1_8, r2_8, r3_8, n3_8, r4_8, n4_8, c5_8, c6_8, v7_8, c8_8, c9_8, r10_8, n10_8, r11_8, n11_8, r12_8, n12_8, r13_8, n13_8, r14_8, v15_8, r16_8, n16_8, r17_8, n17_8, rfl, o_r0_8, o_r1_8, o_r2_8, a_r3_8, f4_8, a_r4_8, f6_8, hz_c6_8, o_v7_8, a_r10_8, f10_8, a_r11_8, f12_8, a_r12_8, f14_8, a_r13_8, f16_8, o_r14_8, o_v15_8, a_r16_8, f20_8, a_r17_8, f22_8, f23_8, f24_8, f25_8, f26_8, f27_8, f28_8, -⟩ := (hG.1 _ _ _ _ hk_8).hX11 rfl
          refine va_get (D := gD g) (ci := 10) (v := .ref r1_8) (C := RX11) (T := TX11) (N := 18) hx hb hts inX11 hown hK hP k_8 hk_8 rfl 1 (by decide) (hts _ kw_94) (fun _ h9 => h9) rfl dX11_putInt_105 ?_
          refine lv_bipush (v := 19) hx hb dX11_putInt_108 (by decide) ?_
          obtain ⟨k_9, fs9, hk_9⟩ := gC_of o_r1_8
          obtain ⟨r0_9, n0_9, c1_9, rfl, a_r0_9, f1_9, f2_9, f3_9, f4_9, f5_9, -⟩ := (hG.1 _ _ _ _ hk_9).hX0 rfl
          have wb_10 : c1_9.toInt ≤ wb := wcP_u1 hD hk_8 rfl hk_9 rfl tk0
          have hkW := hk_8
          have hDW := hD
          have hFc := gfree hD hS hA
          have pg_11 := ge_10_17 hD hk_8 rfl a_r17_8
          have pg_12 := ge_0_0 hD hk_9 rfl a_r0_9
          refine W_led (fun hL0 => ?_)
          refine va_callv (va_runV (As := [.int 19]) (rest := []) ⟨hx, hb, hml, hown, hts⟩ (m_X0_put l g H ws r1_8 (19) (c1_9) hG o_r1_8 (gP_of hD hk_9 (fun q90 e90 => by cases e90; exact (by have q_f2_9 := f2_9; have q_f3_9 := f3_9; have q_wb_10 := wb_10; have q_pwc := pwc; have q_f1_9 := f1_9; have q_f4_9 := f4_9; have q_f5_9 := f5_9; have g_c1_9 := i_rg c1_9; omega))) (gP_of hD hk_9 (fun q90 e90 => by cases e90; exact (by have q_f2_9 := f2_9; have q_f3_9 := f3_9; have q_wb_10 := wb_10; have q_pwc := pwc; have q_f1_9 := f1_9; have q_f4_9 := f4_9; have q_f5_9 := f5_9; have g_c1_9 := i_rg c1_9; omega)))) (cwV 1 hts (gd_V kw_140 kw_13 kw_14 kw_3 kw_12) rfl rfl rfl (by decide +kernel) ⟨Nat.le_of_ble_eq_true rfl, Nat.le_of_ble_eq_true rfl⟩) ⟨gblindH, va_recv hK hP (ci := 0) (q0 := k_9) rfl hk_9, fun U hU hW9 => gmkH hU hW9 hP hK hD hex hE hS hFc⟩ rfl rfl hl.1 rfl (lv_room (Nat.le_of_ble_eq_true rfl)) dX11_putInt_110 ⟨(show 0 + (PC ws + (0)) ≤ PC ws + (0) from (by have e0 : (0 : Int32).toInt = 0 := (by decide); omega)), (show 0 + (PS ws + (0)) ≤ PS ws + (0) from (by have e0 : (0 : Int32).toInt = 0 := (by decide); omega))⟩) hS (fun q _ h => hFc q h) hFc (fun  ws_13 t9 H1 locs ht9 hvm9 hw9 hB9 hz9 hk9 hS => ?_)
          obtain ⟨E_14, Fr_15, hG, hP1, hD1, dc_16, ds_17, hLd, hdc_16, hds_17⟩ := hB9
          rw [ht9] at hLd
          refine W_tight (hL0.tr hLd).1 (hL0.tr hLd).2.1 ?_
          clear hL0 hLd
          have hP : va_P (gD g) cl0 ws_13 H1 := by rw [← ht9]; exact hP1
          have hD : va_D A ws_13 := hD1.weaken (fun _ _ _ h => hFc _ h)
          have kf_18 := hw9
          clear hP1 hD1 hz9 hk9 hvm9 ht9 hw9
          generalize H1 = H at hP hS ⊢
          have aa_19 := a_r3_8
          have aa_20 := a_r4_8
          have aa_21 := a_r10_8
          have aa_22 := a_r11_8
          have aa_23 := a_r12_8
          have aa_24 := a_r13_8
          have aa_25 := a_r16_8
          have aa_26 := a_r17_8
          have aa_27 := a_r0_9
          have o_h0 := E_14.1 _ _ o_h0
          have tq_28 : wcP ws_13 h0 0 (wb + 1) wc := wcP_1 hDW hG Fr_15 (by decide) (by decide) (by decide) (by decide) hkW rfl (fun k9 ci9 fs9 h9 c9 e9 => by have w9 := kf_18 _ _ _ h9 c9 e9; omega) tk0
          refine lv_aload_n hx hb dX11_putInt_113 rfl (lv_at hl 0 rfl) ?_
          obtain ⟨fs9, hk_29, hq_29⟩ := ((gF.a (F' := [(0, 0), (0, 1)]) Fr_15 (fun _ h => h))) _ _ _ hk_8
          obtain ⟨r0_29, r1_29, r2_29, r3_29, n3_29, r4_29, n4_29, c5_29, c6_29, v7_29, c8_29, c9_29, r10_29, n10_29, r11_29, n11_29, r12_29, n12_29, r13_29, n13_29, r14_29, v15_29, r16_29, n16_29, r17_29, n17_29, rfl, o_r0_29, o_r1_29, o_r2_29, a_r3_29, f4_29, a_r4_29, f6_29, hz_c6_29, o_v7_29, a_r10_29, f10_29, a_r11_29, f12_29, a_r12_29, f14_29, a_r13_29, f16_29, o_r14_29, o_v15_29, a_r16_29, f20_29, a_r17_29, f22_29, f23_29, f24_29, f25_29, f26_29, f27_29, f28_29, -⟩ := (hG.1 _ _ _ _ hk_29).hX11 rfl
          obtain rfl := fe_r (hq_29 1 (by decide))
          have o_r1_8 := o_r1_29
          obtain rfl := fe_q (hq_29 7 (by decide))
          have o_v7_8 := o_v7_29
          obtain rfl := fe_q (hq_29 15 (by decide))
          have o_v15_8 := o_v15_29
          refine va_get (D := gD g) (ci := 10) (v := .ref r1_8) (C := RX11) (T := TX11) (N := 18) hx hb hts inX11 hown hK hP k_8 hk_29 rfl 1 (by decide) (hts _ kw_94) (fun _ h9 => h9) rfl dX11_putInt_114 ?_
          refine lv_iload_n hx hb dX11_putInt_117 rfl (lv_at hl 2 rfl) ?_
          obtain ⟨fs9, hk_30, hq_30⟩ := ((gF.a (F' := [(0, 0), (0, 1)]) Fr_15 (fun _ h => h))) _ _ _ hk_9
          obtain ⟨r0_30, n0_30, c1_30, rfl, a_r0_30, f1_30, f2_30, f3_30, f4_30, f5_30, -⟩ := (hG.1 _ _ _ _ hk_30).hX0 rfl
          have kq_31 := kf_18 _ _ _ hk_30 _ rfl
          have wb_32 : c1_30.toInt ≤ (wb + 1) := wcP_u1 hD hk_29 rfl hk_30 rfl tq_28
          have hkW := hk_29
          have hDW := hD
          have hFc := gfree hD hS hA
          have pg_33 := ge_10_17 hD hk_29 rfl a_r17_29
          have pg_34 := ge_0_0 hD hk_30 rfl a_r0_30
          refine W_led (fun hL0 => ?_)
          refine va_callv (va_runV (As := [.int x2]) (rest := []) ⟨hx, hb, hml, hown, hts⟩ (m_X0_put2 l g H ws_13 r1_8 (x2) (c1_30) hG o_r1_8 (gP_of hD hk_30 (fun q90 e90 => by cases e90; exact (by have q_f2_30 := f2_30; have q_f3_30 := f3_30; have q_kq_31 := kq_31; have q_wb_32 := wb_32; have q_pwc := pwc; have q_f2_9 := f2_9; have q_f3_9 := f3_9; have q_wb_10 := wb_10; have q_f1_30 := f1_30; have q_f4_30 := f4_30; have q_f5_30 := f5_30; have q_f1_9 := f1_9; have q_f4_9 := f4_9; have q_f5_9 := f5_9; have g_c1_30 := i_rg c1_30; have g_c1_9 := i_rg c1_9; omega))) (gP_of hD hk_30 (fun q90 e90 => by cases e90; exact (by have q_f2_30 := f2_30; have q_f3_30 := f3_30; have q_kq_31 := kq_31; have q_wb_32 := wb_32; have q_pwc := pwc; have q_f2_9 := f2_9; have q_f3_9 := f3_9; have q_wb_10 := wb_10; have q_f1_30 := f1_30; have q_f4_30 := f4_30; have q_f5_30 := f5_30; have q_f1_9 := f1_9; have q_f4_9 := f4_9; have q_f5_9 := f5_9; have g_c1_30 := i_rg c1_30; have g_c1_9 := i_rg c1_9; omega)))) (cwV 1 hts (gd_V kw_96 kw_17 kw_18 kw_3 kw_16) rfl rfl rfl (by decide +kernel) ⟨Nat.le_of_ble_eq_true rfl, Nat.le_of_ble_eq_true rfl⟩) ⟨gblindH, va_recv hK hP (ci := 0) (q0 := k_9) rfl hk_30, fun U hU hW9 => gmkH hU hW9 hP hK hD hex hE hS hFc⟩ rfl rfl hl.1 rfl (lv_room (Nat.le_of_ble_eq_true rfl)) dX11_putInt_118 ⟨(show 0 + dc_16 + (PC ws_13 + (0)) ≤ PC ws + (0) from (by have e0 : (0 : Int32).toInt = 0 := (by decide); omega)), (show 0 + ds_17 + (PS ws_13 + (0)) ≤ PS ws + (0) from (by have e0 : (0 : Int32).toInt = 0 := (by decide); omega))⟩) hS (fun q _ h => hFc q h) hFc (fun  ws_35 t9 H1 locs ht9 hvm9 hw9 hB9 hz9 hk9 hS => ?_)
          obtain ⟨E_36, Fr_37, hG, hP1, hD1, dc_38, ds_39, hLd, hdc_38, hds_39⟩ := hB9
          rw [ht9] at hLd
          refine W_tight (hL0.tr hLd).1 (hL0.tr hLd).2.1 ?_
          clear hL0 hLd
          have hP : va_P (gD g) cl0 ws_35 H1 := by rw [← ht9]; exact hP1
          have hD : va_D A ws_35 := hD1.weaken (fun _ _ _ h => hFc _ h)
          have kf_40 := hw9
          clear hP1 hD1 hz9 hk9 hvm9 ht9 hw9
          generalize H1 = H at hP hS ⊢
          have aa_41 := a_r3_29
          have aa_42 := a_r4_29
          have aa_43 := a_r10_29
          have aa_44 := a_r11_29
          have aa_45 := a_r12_29
          have aa_46 := a_r13_29
          have aa_47 := a_r16_29
          have aa_48 := a_r17_29
          have aa_49 := a_r0_30
          have o_h0 := E_36.1 _ _ o_h0
          have tq_50 : wcP ws_35 h0 0 ((wb + 1) + 2) wc := wcP_1 hDW hG Fr_37 (by decide) (by decide) (by decide) (by decide) hkW rfl (fun k9 ci9 fs9 h9 c9 e9 => by have w9 := kf_40 _ _ _ h9 c9 e9; omega) tq_28
          refine W_led (fun hLd => ?_)
          have hcl : 0 + dc_16 + dc_38 + PC ws_35 ≤ PC ws + (0) := (by omega)
          have hsl : 0 + ds_17 + ds_39 + PS ws_35 ≤ PS ws + (0) := (by omega)
          refine W.widen (k := PC ws + (0)) (n := PS ws + (0)) (by omega) (by omega) ?_
          have tq_51 : wcP ws_35 h0 0 (wb + 3) (wc + 0) := wcP_le (by omega) (by omega) (by omega) tq_50
          exact W.vret hx hb hr (fun t9 ht9 hW9 => ⟨⟨ws_35, rfl, ⟨trivial, tq_51⟩, ⟨(E_14.tr E_36), (gF.tr (gF.mo (F' := [(0, 0), (0, 1)]) (C' := [(0, 0), (6, 0)]) (S' := none) Fr_15 (fun _ h => h) (fun _ h => h) (Or.inl rfl)) (gF.mo (F' := [(0, 0), (0, 1)]) (C' := [(0, 0), (6, 0)]) (S' := none) Fr_37 (fun _ h => h) (fun _ h => h) (Or.inl rfl))), hG, by rw [ht9]; exact hP, hD, _, _, by rw [ht9]; exact hLd, hcl, hsl⟩⟩, hS.F ht9⟩) hS.2.2 dX11_putInt_121
        · refine lv_aload_n hx hb dX11_putInt_84 rfl (lv_at hl 0 rfl) ?_
          obtain ⟨k_52, fs9, hk_52⟩ := gC_of o_h0
          obtain ⟨r0_52, r1_52, r2_52, r3_52, n3_52, r4_52, n4_52, c5_52, c6_52, v7_52, c8_52, c9_52, r10_52, n10_52, r11_52, n11_52, r12_52, n12_52, r13_52, n13_52, r14_52, v15_52, r16_52, n16_52, r17_52, n17_52, rfl, o_r0_52, o_r1_52, o_r2_52, a_r3_52, f4_52, a_r4_52, f6_52, hz_c6_52, o_v7_52, a_r10_52, f10_52, a_r11_52, f12_52, a_r12_52, f14_52, a_r13_52, f16_52, o_r14_52, o_v15_52, a_r16_52, f20_52, a_r17_52, f22_52, f23_52, f24_52, f25_52, f26_52, f27_52, f28_52, -⟩ := (hG.1 _ _ _ _ hk_52).hX11 rfl
          refine va_get (D := gD g) (ci := 10) (v := .ref r1_52) (C := RX11) (T := TX11) (N := 18) hx hb hts inX11 hown hK hP k_52 hk_52 rfl 1 (by decide) (hts _ kw_94) (fun _ h9 => h9) rfl dX11_putInt_85 ?_
          refine lv_bipush (v := 18) hx hb dX11_putInt_88 (by decide) ?_
          obtain ⟨k_53, fs9, hk_53⟩ := gC_of o_r1_52
          obtain ⟨r0_53, n0_53, c1_53, rfl, a_r0_53, f1_53, f2_53, f3_53, f4_53, f5_53, -⟩ := (hG.1 _ _ _ _ hk_53).hX0 rfl
          have wb_54 : c1_53.toInt ≤ wb := wcP_u1 hD hk_52 rfl hk_53 rfl tk0
          have hkW := hk_52
          have hDW := hD
          have hFc := gfree hD hS hA
          have pg_55 := ge_10_17 hD hk_52 rfl a_r17_52
          have pg_56 := ge_0_0 hD hk_53 rfl a_r0_53
          refine W_led (fun hL0 => ?_)
          refine va_callv (va_runV (As := [.int 18]) (rest := []) ⟨hx, hb, hml, hown, hts⟩ (m_X0_put l g H ws r1_52 (18) (c1_53) hG o_r1_52 (gP_of hD hk_53 (fun q90 e90 => by cases e90; exact (by have q_f2_53 := f2_53; have q_f3_53 := f3_53; have q_wb_54 := wb_54; have q_pwc := pwc; have q_f1_53 := f1_53; have q_f4_53 := f4_53; have q_f5_53 := f5_53; have g_c1_53 := i_rg c1_53; omega))) (gP_of hD hk_53 (fun q90 e90 => by cases e90; exact (by have q_f2_53 := f2_53; have q_f3_53 := f3_53; have q_wb_54 := wb_54; have q_pwc := pwc; have q_f1_53 := f1_53; have q_f4_53 := f4_53; have q_f5_53 := f5_53; have g_c1_53 := i_rg c1_53; omega)))) (cwV 1 hts (gd_V kw_140 kw_13 kw_14 kw_3 kw_12) rfl rfl rfl (by decide +kernel) ⟨Nat.le_of_ble_eq_true rfl, Nat.le_of_ble_eq_true rfl⟩) ⟨gblindH, va_recv hK hP (ci := 0) (q0 := k_53) rfl hk_53, fun U hU hW9 => gmkH hU hW9 hP hK hD hex hE hS hFc⟩ rfl rfl hl.1 rfl (lv_room (Nat.le_of_ble_eq_true rfl)) dX11_putInt_90 ⟨(show 0 + (PC ws + (0)) ≤ PC ws + (0) from (by have e0 : (0 : Int32).toInt = 0 := (by decide); omega)), (show 0 + (PS ws + (0)) ≤ PS ws + (0) from (by have e0 : (0 : Int32).toInt = 0 := (by decide); omega))⟩) hS (fun q _ h => hFc q h) hFc (fun  ws_57 t9 H1 locs ht9 hvm9 hw9 hB9 hz9 hk9 hS => ?_)
          obtain ⟨E_58, Fr_59, hG, hP1, hD1, dc_60, ds_61, hLd, hdc_60, hds_61⟩ := hB9
          rw [ht9] at hLd
          refine W_tight (hL0.tr hLd).1 (hL0.tr hLd).2.1 ?_
          clear hL0 hLd
          have hP : va_P (gD g) cl0 ws_57 H1 := by rw [← ht9]; exact hP1
          have hD : va_D A ws_57 := hD1.weaken (fun _ _ _ h => hFc _ h)
          have kf_62 := hw9
          clear hP1 hD1 hz9 hk9 hvm9 ht9 hw9
          generalize H1 = H at hP hS ⊢
          have aa_63 := a_r3_52
          have aa_64 := a_r4_52
          have aa_65 := a_r10_52
          have aa_66 := a_r11_52
          have aa_67 := a_r12_52
          have aa_68 := a_r13_52
          have aa_69 := a_r16_52
          have aa_70 := a_r17_52
          have aa_71 := a_r0_53
          have o_h0 := E_58.1 _ _ o_h0
          have tq_72 : wcP ws_57 h0 0 (wb + 1) wc := wcP_1 hDW hG Fr_59 (by decide) (by decide) (by decide) (by decide) hkW rfl (fun k9 ci9 fs9 h9 c9 e9 => by have w9 := kf_62 _ _ _ h9 c9 e9; omega) tk0
          refine lv_aload_n hx hb dX11_putInt_93 rfl (lv_at hl 0 rfl) ?_
          obtain ⟨fs9, hk_73, hq_73⟩ := ((gF.a (F' := [(0, 0), (0, 1)]) Fr_59 (fun _ h => h))) _ _ _ hk_52
          obtain ⟨r0_73, r1_73, r2_73, r3_73, n3_73, r4_73, n4_73, c5_73, c6_73, v7_73, c8_73, c9_73, r10_73, n10_73, r11_73, n11_73, r12_73, n12_73, r13_73, n13_73, r14_73, v15_73, r16_73, n16_73, r17_73, n17_73, rfl, o_r0_73, o_r1_73, o_r2_73, a_r3_73, f4_73, a_r4_73, f6_73, hz_c6_73, o_v7_73, a_r10_73, f10_73, a_r11_73, f12_73, a_r12_73, f14_73, a_r13_73, f16_73, o_r14_73, o_v15_73, a_r16_73, f20_73, a_r17_73, f22_73, f23_73, f24_73, f25_73, f26_73, f27_73, f28_73, -⟩ := (hG.1 _ _ _ _ hk_73).hX11 rfl
          obtain rfl := fe_r (hq_73 1 (by decide))
          have o_r1_52 := o_r1_73
          obtain rfl := fe_q (hq_73 7 (by decide))
          have o_v7_52 := o_v7_73
          obtain rfl := fe_q (hq_73 15 (by decide))
          have o_v15_52 := o_v15_73
          refine va_get (D := gD g) (ci := 10) (v := .ref r1_52) (C := RX11) (T := TX11) (N := 18) hx hb hts inX11 hown hK hP k_52 hk_73 rfl 1 (by decide) (hts _ kw_94) (fun _ h9 => h9) rfl dX11_putInt_94 ?_
          refine lv_iload_n hx hb dX11_putInt_97 rfl (lv_at hl 2 rfl) ?_
          obtain ⟨fs9, hk_74, hq_74⟩ := ((gF.a (F' := [(0, 0), (0, 1)]) Fr_59 (fun _ h => h))) _ _ _ hk_53
          obtain ⟨r0_74, n0_74, c1_74, rfl, a_r0_74, f1_74, f2_74, f3_74, f4_74, f5_74, -⟩ := (hG.1 _ _ _ _ hk_74).hX0 rfl
          have kq_75 := kf_62 _ _ _ hk_74 _ rfl
          have wb_76 : c1_74.toInt ≤ (wb + 1) := wcP_u1 hD hk_73 rfl hk_74 rfl tq_72
          have hkW := hk_73
          have hDW := hD
          have hFc := gfree hD hS hA
          have pg_77 := ge_10_17 hD hk_73 rfl a_r17_73
          have pg_78 := ge_0_0 hD hk_74 rfl a_r0_74
          refine W_led (fun hL0 => ?_)
          refine va_callv (va_runV (As := [.int x2]) (rest := []) ⟨hx, hb, hml, hown, hts⟩ (m_X0_put l g H ws_57 r1_52 (x2) (c1_74) hG o_r1_52 (gP_of hD hk_74 (fun q90 e90 => by cases e90; exact (by have q_f2_74 := f2_74; have q_f3_74 := f3_74; have q_kq_75 := kq_75; have q_wb_76 := wb_76; have q_pwc := pwc; have q_f2_53 := f2_53; have q_f3_53 := f3_53; have q_wb_54 := wb_54; have q_f1_74 := f1_74; have q_f4_74 := f4_74; have q_f5_74 := f5_74; have q_f1_53 := f1_53; have q_f4_53 := f4_53; have q_f5_53 := f5_53; have g_c1_53 := i_rg c1_53; have g_c1_74 := i_rg c1_74; omega))) (gP_of hD hk_74 (fun q90 e90 => by cases e90; exact (by have q_f2_74 := f2_74; have q_f3_74 := f3_74; have q_kq_75 := kq_75; have q_wb_76 := wb_76; have q_pwc := pwc; have q_f2_53 := f2_53; have q_f3_53 := f3_53; have q_wb_54 := wb_54; have q_f1_74 := f1_74; have q_f4_74 := f4_74; have q_f5_74 := f5_74; have q_f1_53 := f1_53; have q_f4_53 := f4_53; have q_f5_53 := f5_53; have g_c1_53 := i_rg c1_53; have g_c1_74 := i_rg c1_74; omega)))) (cwV 1 hts (gd_V kw_140 kw_13 kw_14 kw_3 kw_12) rfl rfl rfl (by decide +kernel) ⟨Nat.le_of_ble_eq_true rfl, Nat.le_of_ble_eq_true rfl⟩) ⟨gblindH, va_recv hK hP (ci := 0) (q0 := k_53) rfl hk_74, fun U hU hW9 => gmkH hU hW9 hP hK hD hex hE hS hFc⟩ rfl rfl hl.1 rfl (lv_room (Nat.le_of_ble_eq_true rfl)) dX11_putInt_98 ⟨(show 0 + dc_60 + (PC ws_57 + (0)) ≤ PC ws + (0) from (by have e0 : (0 : Int32).toInt = 0 := (by decide); omega)), (show 0 + ds_61 + (PS ws_57 + (0)) ≤ PS ws + (0) from (by have e0 : (0 : Int32).toInt = 0 := (by decide); omega))⟩) hS (fun q _ h => hFc q h) hFc (fun  ws_79 t9 H1 locs ht9 hvm9 hw9 hB9 hz9 hk9 hS => ?_)
          obtain ⟨E_80, Fr_81, hG, hP1, hD1, dc_82, ds_83, hLd, hdc_82, hds_83⟩ := hB9
          rw [ht9] at hLd
          refine W_tight (hL0.tr hLd).1 (hL0.tr hLd).2.1 ?_
          clear hL0 hLd
          have hP : va_P (gD g) cl0 ws_79 H1 := by rw [← ht9]; exact hP1
          have hD : va_D A ws_79 := hD1.weaken (fun _ _ _ h => hFc _ h)
          have kf_84 := hw9
          clear hP1 hD1 hz9 hk9 hvm9 ht9 hw9
          generalize H1 = H at hP hS ⊢
          have aa_85 := a_r3_73
          have aa_86 := a_r4_73
          have aa_87 := a_r10_73
          have aa_88 := a_r11_73
          have aa_89 := a_r12_73
          have aa_90 := a_r13_73
          have aa_91 := a_r16_73
          have aa_92 := a_r17_73
          have aa_93 := a_r0_74
          have o_h0 := E_80.1 _ _ o_h0
          have tq_94 : wcP ws_79 h0 0 ((wb + 1) + 1) wc := wcP_1 hDW hG Fr_81 (by decide) (by decide) (by decide) (by decide) hkW rfl (fun k9 ci9 fs9 h9 c9 e9 => by have w9 := kf_84 _ _ _ h9 c9 e9; omega) tq_72
          refine lv_goto (tgt := 121) hx hb dX11_putInt_101 (by decide) ?_
          refine W_led (fun hLd => ?_)
          have hcl : 0 + dc_60 + dc_82 + PC ws_79 ≤ PC ws + (0) := (by omega)
          have hsl : 0 + ds_61 + ds_83 + PS ws_79 ≤ PS ws + (0) := (by omega)
          refine W.widen (k := PC ws + (0)) (n := PS ws + (0)) (by omega) (by omega) ?_
          have tq_95 : wcP ws_79 h0 0 (wb + 3) (wc + 0) := wcP_le (by omega) (by omega) (by omega) tq_94
          exact W.vret hx hb hr (fun t9 ht9 hW9 => ⟨⟨ws_79, rfl, ⟨trivial, tq_95⟩, ⟨(E_58.tr E_80), (gF.tr (gF.mo (F' := [(0, 0), (0, 1)]) (C' := [(0, 0), (6, 0)]) (S' := none) Fr_59 (fun _ h => h) (fun _ h => h) (Or.inl rfl)) (gF.mo (F' := [(0, 0), (0, 1)]) (C' := [(0, 0), (6, 0)]) (S' := none) Fr_81 (fun _ h => h) (fun _ h => h) (Or.inl rfl))), hG, by rw [ht9]; exact hP, hD, _, _, by rw [ht9]; exact hLd, hcl, hsl⟩⟩, hS.F ht9⟩) hS.2.2 dX11_putInt_121
      · refine lv_aload_n hx hb dX11_putInt_57 rfl (lv_at hl 0 rfl) ?_
        obtain ⟨k_96, fs9, hk_96⟩ := gC_of o_h0
        obtain ⟨r0_96, r1_96, r2_96, r3_96, n3_96, r4_96, n4_96, c5_96, c6_96, v7_96, c8_96, c9_96, r10_96, n10_96, r11_96, n11_96, r12_96, n12_96, r13_96, n13_96, r14_96, v15_96, r16_96, n16_96, r17_96, n17_96, rfl, o_r0_96, o_r1_96, o_r2_96, a_r3_96, f4_96, a_r4_96, f6_96, hz_c6_96, o_v7_96, a_r10_96, f10_96, a_r11_96, f12_96, a_r12_96, f14_96, a_r13_96, f16_96, o_r14_96, o_v15_96, a_r16_96, f20_96, a_r17_96, f22_96, f23_96, f24_96, f25_96, f26_96, f27_96, f28_96, -⟩ := (hG.1 _ _ _ _ hk_96).hX11 rfl
        refine va_get (D := gD g) (ci := 10) (v := .ref r1_96) (C := RX11) (T := TX11) (N := 18) hx hb hts inX11 hown hK hP k_96 hk_96 rfl 1 (by decide) (hts _ kw_94) (fun _ h9 => h9) rfl dX11_putInt_58 ?_
        refine lv_bipush (v := 17) hx hb dX11_putInt_61 (by decide) ?_
        obtain ⟨k_97, fs9, hk_97⟩ := gC_of o_r1_96
        obtain ⟨r0_97, n0_97, c1_97, rfl, a_r0_97, f1_97, f2_97, f3_97, f4_97, f5_97, -⟩ := (hG.1 _ _ _ _ hk_97).hX0 rfl
        have wb_98 : c1_97.toInt ≤ wb := wcP_u1 hD hk_96 rfl hk_97 rfl tk0
        have hkW := hk_96
        have hDW := hD
        have hFc := gfree hD hS hA
        have pg_99 := ge_10_17 hD hk_96 rfl a_r17_96
        have pg_100 := ge_0_0 hD hk_97 rfl a_r0_97
        refine W_led (fun hL0 => ?_)
        refine va_callv (va_runV (As := [.int 17]) (rest := []) ⟨hx, hb, hml, hown, hts⟩ (m_X0_put l g H ws r1_96 (17) (c1_97) hG o_r1_96 (gP_of hD hk_97 (fun q90 e90 => by cases e90; exact (by have q_f2_97 := f2_97; have q_f3_97 := f3_97; have q_wb_98 := wb_98; have q_pwc := pwc; have q_f1_97 := f1_97; have q_f4_97 := f4_97; have q_f5_97 := f5_97; have g_c1_97 := i_rg c1_97; omega))) (gP_of hD hk_97 (fun q90 e90 => by cases e90; exact (by have q_f2_97 := f2_97; have q_f3_97 := f3_97; have q_wb_98 := wb_98; have q_pwc := pwc; have q_f1_97 := f1_97; have q_f4_97 := f4_97; have q_f5_97 := f5_97; have g_c1_97 := i_rg c1_97; omega)))) (cwV 1 hts (gd_V kw_140 kw_13 kw_14 kw_3 kw_12) rfl rfl rfl (by decide +kernel) ⟨Nat.le_of_ble_eq_true rfl, Nat.le_of_ble_eq_true rfl⟩) ⟨gblindH, va_recv hK hP (ci := 0) (q0 := k_97) rfl hk_97, fun U hU hW9 => gmkH hU hW9 hP hK hD hex hE hS hFc⟩ rfl rfl hl.1 rfl (lv_room (Nat.le_of_ble_eq_true rfl)) dX11_putInt_63 ⟨(show 0 + (PC ws + (0)) ≤ PC ws + (0) from (by have e0 : (0 : Int32).toInt = 0 := (by decide); omega)), (show 0 + (PS ws + (0)) ≤ PS ws + (0) from (by have e0 : (0 : Int32).toInt = 0 := (by decide); omega))⟩) hS (fun q _ h => hFc q h) hFc (fun  ws_101 t9 H1 locs ht9 hvm9 hw9 hB9 hz9 hk9 hS => ?_)
        obtain ⟨E_102, Fr_103, hG, hP1, hD1, dc_104, ds_105, hLd, hdc_104, hds_105⟩ := hB9
        rw [ht9] at hLd
        refine W_tight (hL0.tr hLd).1 (hL0.tr hLd).2.1 ?_
        clear hL0 hLd
        have hP : va_P (gD g) cl0 ws_101 H1 := by rw [← ht9]; exact hP1
        have hD : va_D A ws_101 := hD1.weaken (fun _ _ _ h => hFc _ h)
        have kf_106 := hw9
        clear hP1 hD1 hz9 hk9 hvm9 ht9 hw9
        generalize H1 = H at hP hS ⊢
        have aa_107 := a_r3_96
        have aa_108 := a_r4_96
        have aa_109 := a_r10_96
        have aa_110 := a_r11_96
        have aa_111 := a_r12_96
        have aa_112 := a_r13_96
        have aa_113 := a_r16_96
        have aa_114 := a_r17_96
        have aa_115 := a_r0_97
        have o_h0 := E_102.1 _ _ o_h0
        have tq_116 : wcP ws_101 h0 0 (wb + 1) wc := wcP_1 hDW hG Fr_103 (by decide) (by decide) (by decide) (by decide) hkW rfl (fun k9 ci9 fs9 h9 c9 e9 => by have w9 := kf_106 _ _ _ h9 c9 e9; omega) tk0
        refine lv_aload_n hx hb dX11_putInt_66 rfl (lv_at hl 0 rfl) ?_
        obtain ⟨fs9, hk_117, hq_117⟩ := ((gF.a (F' := [(0, 0), (0, 1)]) Fr_103 (fun _ h => h))) _ _ _ hk_96
        obtain ⟨r0_117, r1_117, r2_117, r3_117, n3_117, r4_117, n4_117, c5_117, c6_117, v7_117, c8_117, c9_117, r10_117, n10_117, r11_117, n11_117, r12_117, n12_117, r13_117, n13_117, r14_117, v15_117, r16_117, n16_117, r17_117, n17_117, rfl, o_r0_117, o_r1_117, o_r2_117, a_r3_117, f4_117, a_r4_117, f6_117, hz_c6_117, o_v7_117, a_r10_117, f10_117, a_r11_117, f12_117, a_r12_117, f14_117, a_r13_117, f16_117, o_r14_117, o_v15_117, a_r16_117, f20_117, a_r17_117, f22_117, f23_117, f24_117, f25_117, f26_117, f27_117, f28_117, -⟩ := (hG.1 _ _ _ _ hk_117).hX11 rfl
        obtain rfl := fe_r (hq_117 1 (by decide))
        have o_r1_96 := o_r1_117
        obtain rfl := fe_q (hq_117 7 (by decide))
        have o_v7_96 := o_v7_117
        obtain rfl := fe_q (hq_117 15 (by decide))
        have o_v15_96 := o_v15_117
        refine va_get (D := gD g) (ci := 10) (v := .ref r1_96) (C := RX11) (T := TX11) (N := 18) hx hb hts inX11 hown hK hP k_96 hk_117 rfl 1 (by decide) (hts _ kw_94) (fun _ h9 => h9) rfl dX11_putInt_67 ?_
        refine lv_iload_n hx hb dX11_putInt_70 rfl (lv_at hl 1 rfl) ?_
        obtain ⟨fs9, hk_118, hq_118⟩ := ((gF.a (F' := [(0, 0), (0, 1)]) Fr_103 (fun _ h => h))) _ _ _ hk_97
        obtain ⟨r0_118, n0_118, c1_118, rfl, a_r0_118, f1_118, f2_118, f3_118, f4_118, f5_118, -⟩ := (hG.1 _ _ _ _ hk_118).hX0 rfl
        have kq_119 := kf_106 _ _ _ hk_118 _ rfl
        have wb_120 : c1_118.toInt ≤ (wb + 1) := wcP_u1 hD hk_117 rfl hk_118 rfl tq_116
        have hkW := hk_117
        have hDW := hD
        have hFc := gfree hD hS hA
        have pg_121 := ge_10_17 hD hk_117 rfl a_r17_117
        have pg_122 := ge_0_0 hD hk_118 rfl a_r0_118
        refine W_led (fun hL0 => ?_)
        refine va_callv (va_runV (As := [.int x1]) (rest := []) ⟨hx, hb, hml, hown, hts⟩ (m_X0_put2 l g H ws_101 r1_96 (x1) (c1_118) hG o_r1_96 (gP_of hD hk_118 (fun q90 e90 => by cases e90; exact (by have q_f2_118 := f2_118; have q_f3_118 := f3_118; have q_kq_119 := kq_119; have q_wb_120 := wb_120; have q_pwc := pwc; have q_f2_97 := f2_97; have q_f3_97 := f3_97; have q_wb_98 := wb_98; have q_f1_118 := f1_118; have q_f4_118 := f4_118; have q_f5_118 := f5_118; have q_f1_97 := f1_97; have q_f4_97 := f4_97; have q_f5_97 := f5_97; have g_c1_118 := i_rg c1_118; have g_c1_97 := i_rg c1_97; omega))) (gP_of hD hk_118 (fun q90 e90 => by cases e90; exact (by have q_f2_118 := f2_118; have q_f3_118 := f3_118; have q_kq_119 := kq_119; have q_wb_120 := wb_120; have q_pwc := pwc; have q_f2_97 := f2_97; have q_f3_97 := f3_97; have q_wb_98 := wb_98; have q_f1_118 := f1_118; have q_f4_118 := f4_118; have q_f5_118 := f5_118; have q_f1_97 := f1_97; have q_f4_97 := f4_97; have q_f5_97 := f5_97; have g_c1_118 := i_rg c1_118; have g_c1_97 := i_rg c1_97; omega)))) (cwV 1 hts (gd_V kw_96 kw_17 kw_18 kw_3 kw_16) rfl rfl rfl (by decide +kernel) ⟨Nat.le_of_ble_eq_true rfl, Nat.le_of_ble_eq_true rfl⟩) ⟨gblindH, va_recv hK hP (ci := 0) (q0 := k_97) rfl hk_118, fun U hU hW9 => gmkH hU hW9 hP hK hD hex hE hS hFc⟩ rfl rfl hl.1 rfl (lv_room (Nat.le_of_ble_eq_true rfl)) dX11_putInt_71 ⟨(show 0 + dc_104 + (PC ws_101 + (0)) ≤ PC ws + (0) from (by have e0 : (0 : Int32).toInt = 0 := (by decide); omega)), (show 0 + ds_105 + (PS ws_101 + (0)) ≤ PS ws + (0) from (by have e0 : (0 : Int32).toInt = 0 := (by decide); omega))⟩) hS (fun q _ h => hFc q h) hFc (fun  ws_123 t9 H1 locs ht9 hvm9 hw9 hB9 hz9 hk9 hS => ?_)
        obtain ⟨E_124, Fr_125, hG, hP1, hD1, dc_126, ds_127, hLd, hdc_126, hds_127⟩ := hB9
        rw [ht9] at hLd
        refine W_tight (hL0.tr hLd).1 (hL0.tr hLd).2.1 ?_
        clear hL0 hLd
        have hP : va_P (gD g) cl0 ws_123 H1 := by rw [← ht9]; exact hP1
        have hD : va_D A ws_123 := hD1.weaken (fun _ _ _ h => hFc _ h)
        have kf_128 := hw9
        clear hP1 hD1 hz9 hk9 hvm9 ht9 hw9
        generalize H1 = H at hP hS ⊢
        have aa_129 := a_r3_117
        have aa_130 := a_r4_117
        have aa_131 := a_r10_117
        have aa_132 := a_r11_117
        have aa_133 := a_r12_117
        have aa_134 := a_r13_117
        have aa_135 := a_r16_117
        have aa_136 := a_r17_117
        have aa_137 := a_r0_118
        have o_h0 := E_124.1 _ _ o_h0
        have tq_138 : wcP ws_123 h0 0 ((wb + 1) + 2) wc := wcP_1 hDW hG Fr_125 (by decide) (by decide) (by decide) (by decide) hkW rfl (fun k9 ci9 fs9 h9 c9 e9 => by have w9 := kf_128 _ _ _ h9 c9 e9; omega) tq_116
        refine lv_goto (tgt := 121) hx hb dX11_putInt_74 (by decide) ?_
        refine W_led (fun hLd => ?_)
        have hcl : 0 + dc_104 + dc_126 + PC ws_123 ≤ PC ws + (0) := (by omega)
        have hsl : 0 + ds_105 + ds_127 + PS ws_123 ≤ PS ws + (0) := (by omega)
        refine W.widen (k := PC ws + (0)) (n := PS ws + (0)) (by omega) (by omega) ?_
        have tq_139 : wcP ws_123 h0 0 (wb + 3) (wc + 0) := wcP_le (by omega) (by omega) (by omega) tq_138
        exact W.vret hx hb hr (fun t9 ht9 hW9 => ⟨⟨ws_123, rfl, ⟨trivial, tq_139⟩, ⟨(E_102.tr E_124), (gF.tr (gF.mo (F' := [(0, 0), (0, 1)]) (C' := [(0, 0), (6, 0)]) (S' := none) Fr_103 (fun _ h => h) (fun _ h => h) (Or.inl rfl)) (gF.mo (F' := [(0, 0), (0, 1)]) (C' := [(0, 0), (6, 0)]) (S' := none) Fr_125 (fun _ h => h) (fun _ h => h) (Or.inl rfl))), hG, by rw [ht9]; exact hP, hD, _, _, by rw [ht9]; exact hLd, hcl, hsl⟩⟩, hS.F ht9⟩) hS.2.2 dX11_putInt_121
    · refine lv_aload_n hx hb dX11_putInt_31 rfl (lv_at hl 0 rfl) ?_
      obtain ⟨k_140, fs9, hk_140⟩ := gC_of o_h0
      obtain ⟨r0_140, r1_140, r2_140, r3_140, n3_140, r4_140, n4_140, c5_140, c6_140, v7_140, c8_140, c9_140, r10_140, n10_140, r11_140, n11_140, r12_140, n12_140, r13_140, n13_140, r14_140, v15_140, r16_140, n16_140, r17_140, n17_140, rfl, o_r0_140, o_r1_140, o_r2_140, a_r3_140, f4_140, a_r4_140, f6_140, hz_c6_140, o_v7_140, a_r10_140, f10_140, a_r11_140, f12_140, a_r12_140, f14_140, a_r13_140, f16_140, o_r14_140, o_v15_140, a_r16_140, f20_140, a_r17_140, f22_140, f23_140, f24_140, f25_140, f26_140, f27_140, f28_140, -⟩ := (hG.1 _ _ _ _ hk_140).hX11 rfl
      refine va_get (D := gD g) (ci := 10) (v := .ref r1_140) (C := RX11) (T := TX11) (N := 18) hx hb hts inX11 hown hK hP k_140 hk_140 rfl 1 (by decide) (hts _ kw_94) (fun _ h9 => h9) rfl dX11_putInt_32 ?_
      refine lv_bipush (v := 16) hx hb dX11_putInt_35 (by decide) ?_
      obtain ⟨k_141, fs9, hk_141⟩ := gC_of o_r1_140
      obtain ⟨r0_141, n0_141, c1_141, rfl, a_r0_141, f1_141, f2_141, f3_141, f4_141, f5_141, -⟩ := (hG.1 _ _ _ _ hk_141).hX0 rfl
      have wb_142 : c1_141.toInt ≤ wb := wcP_u1 hD hk_140 rfl hk_141 rfl tk0
      have hkW := hk_140
      have hDW := hD
      have hFc := gfree hD hS hA
      have pg_143 := ge_10_17 hD hk_140 rfl a_r17_140
      have pg_144 := ge_0_0 hD hk_141 rfl a_r0_141
      refine W_led (fun hL0 => ?_)
      refine va_callv (va_runV (As := [.int 16]) (rest := []) ⟨hx, hb, hml, hown, hts⟩ (m_X0_put l g H ws r1_140 (16) (c1_141) hG o_r1_140 (gP_of hD hk_141 (fun q90 e90 => by cases e90; exact (by have q_f2_141 := f2_141; have q_f3_141 := f3_141; have q_wb_142 := wb_142; have q_pwc := pwc; have q_f1_141 := f1_141; have q_f4_141 := f4_141; have q_f5_141 := f5_141; have g_c1_141 := i_rg c1_141; omega))) (gP_of hD hk_141 (fun q90 e90 => by cases e90; exact (by have q_f2_141 := f2_141; have q_f3_141 := f3_141; have q_wb_142 := wb_142; have q_pwc := pwc; have q_f1_141 := f1_141; have q_f4_141 := f4_141; have q_f5_141 := f5_141; have g_c1_141 := i_rg c1_141; omega)))) (cwV 1 hts (gd_V kw_140 kw_13 kw_14 kw_3 kw_12) rfl rfl rfl (by decide +kernel) ⟨Nat.le_of_ble_eq_true rfl, Nat.le_of_ble_eq_true rfl⟩) ⟨gblindH, va_recv hK hP (ci := 0) (q0 := k_141) rfl hk_141, fun U hU hW9 => gmkH hU hW9 hP hK hD hex hE hS hFc⟩ rfl rfl hl.1 rfl (lv_room (Nat.le_of_ble_eq_true rfl)) dX11_putInt_37 ⟨(show 0 + (PC ws + (0)) ≤ PC ws + (0) from (by have e0 : (0 : Int32).toInt = 0 := (by decide); omega)), (show 0 + (PS ws + (0)) ≤ PS ws + (0) from (by have e0 : (0 : Int32).toInt = 0 := (by decide); omega))⟩) hS (fun q _ h => hFc q h) hFc (fun  ws_145 t9 H1 locs ht9 hvm9 hw9 hB9 hz9 hk9 hS => ?_)
      obtain ⟨E_146, Fr_147, hG, hP1, hD1, dc_148, ds_149, hLd, hdc_148, hds_149⟩ := hB9
      rw [ht9] at hLd
      refine W_tight (hL0.tr hLd).1 (hL0.tr hLd).2.1 ?_
      clear hL0 hLd
      have hP : va_P (gD g) cl0 ws_145 H1 := by rw [← ht9]; exact hP1
      have hD : va_D A ws_145 := hD1.weaken (fun _ _ _ h => hFc _ h)
      have kf_150 := hw9
      clear hP1 hD1 hz9 hk9 hvm9 ht9 hw9
      generalize H1 = H at hP hS ⊢
      have aa_151 := a_r3_140
      have aa_152 := a_r4_140
      have aa_153 := a_r10_140
      have aa_154 := a_r11_140
      have aa_155 := a_r12_140
      have aa_156 := a_r13_140
      have aa_157 := a_r16_140
      have aa_158 := a_r17_140
      have aa_159 := a_r0_141
      have o_h0 := E_146.1 _ _ o_h0
      have tq_160 : wcP ws_145 h0 0 (wb + 1) wc := wcP_1 hDW hG Fr_147 (by decide) (by decide) (by decide) (by decide) hkW rfl (fun k9 ci9 fs9 h9 c9 e9 => by have w9 := kf_150 _ _ _ h9 c9 e9; omega) tk0
      refine lv_aload_n hx hb dX11_putInt_40 rfl (lv_at hl 0 rfl) ?_
      obtain ⟨fs9, hk_161, hq_161⟩ := ((gF.a (F' := [(0, 0), (0, 1)]) Fr_147 (fun _ h => h))) _ _ _ hk_140
      obtain ⟨r0_161, r1_161, r2_161, r3_161, n3_161, r4_161, n4_161, c5_161, c6_161, v7_161, c8_161, c9_161, r10_161, n10_161, r11_161, n11_161, r12_161, n12_161, r13_161, n13_161, r14_161, v15_161, r16_161, n16_161, r17_161, n17_161, rfl, o_r0_161, o_r1_161, o_r2_161, a_r3_161, f4_161, a_r4_161, f6_161, hz_c6_161, o_v7_161, a_r10_161, f10_161, a_r11_161, f12_161, a_r12_161, f14_161, a_r13_161, f16_161, o_r14_161, o_v15_161, a_r16_161, f20_161, a_r17_161, f22_161, f23_161, f24_161, f25_161, f26_161, f27_161, f28_161, -⟩ := (hG.1 _ _ _ _ hk_161).hX11 rfl
      obtain rfl := fe_r (hq_161 1 (by decide))
      have o_r1_140 := o_r1_161
      obtain rfl := fe_q (hq_161 7 (by decide))
      have o_v7_140 := o_v7_161
      obtain rfl := fe_q (hq_161 15 (by decide))
      have o_v15_140 := o_v15_161
      refine va_get (D := gD g) (ci := 10) (v := .ref r1_140) (C := RX11) (T := TX11) (N := 18) hx hb hts inX11 hown hK hP k_140 hk_161 rfl 1 (by decide) (hts _ kw_94) (fun _ h9 => h9) rfl dX11_putInt_41 ?_
      refine lv_iload_n hx hb dX11_putInt_44 rfl (lv_at hl 1 rfl) ?_
      obtain ⟨fs9, hk_162, hq_162⟩ := ((gF.a (F' := [(0, 0), (0, 1)]) Fr_147 (fun _ h => h))) _ _ _ hk_141
      obtain ⟨r0_162, n0_162, c1_162, rfl, a_r0_162, f1_162, f2_162, f3_162, f4_162, f5_162, -⟩ := (hG.1 _ _ _ _ hk_162).hX0 rfl
      have kq_163 := kf_150 _ _ _ hk_162 _ rfl
      have wb_164 : c1_162.toInt ≤ (wb + 1) := wcP_u1 hD hk_161 rfl hk_162 rfl tq_160
      have hkW := hk_161
      have hDW := hD
      have hFc := gfree hD hS hA
      have pg_165 := ge_10_17 hD hk_161 rfl a_r17_161
      have pg_166 := ge_0_0 hD hk_162 rfl a_r0_162
      refine W_led (fun hL0 => ?_)
      refine va_callv (va_runV (As := [.int x1]) (rest := []) ⟨hx, hb, hml, hown, hts⟩ (m_X0_put l g H ws_145 r1_140 (x1) (c1_162) hG o_r1_140 (gP_of hD hk_162 (fun q90 e90 => by cases e90; exact (by have q_f2_162 := f2_162; have q_f3_162 := f3_162; have q_kq_163 := kq_163; have q_wb_164 := wb_164; have q_pwc := pwc; have q_f2_141 := f2_141; have q_f3_141 := f3_141; have q_wb_142 := wb_142; have q_f1_162 := f1_162; have q_f4_162 := f4_162; have q_f5_162 := f5_162; have q_f1_141 := f1_141; have q_f4_141 := f4_141; have q_f5_141 := f5_141; have g_c1_141 := i_rg c1_141; have g_c1_162 := i_rg c1_162; omega))) (gP_of hD hk_162 (fun q90 e90 => by cases e90; exact (by have q_f2_162 := f2_162; have q_f3_162 := f3_162; have q_kq_163 := kq_163; have q_wb_164 := wb_164; have q_pwc := pwc; have q_f2_141 := f2_141; have q_f3_141 := f3_141; have q_wb_142 := wb_142; have q_f1_162 := f1_162; have q_f4_162 := f4_162; have q_f5_162 := f5_162; have q_f1_141 := f1_141; have q_f4_141 := f4_141; have q_f5_141 := f5_141; have g_c1_141 := i_rg c1_141; have g_c1_162 := i_rg c1_162; omega)))) (cwV 1 hts (gd_V kw_140 kw_13 kw_14 kw_3 kw_12) rfl rfl rfl (by decide +kernel) ⟨Nat.le_of_ble_eq_true rfl, Nat.le_of_ble_eq_true rfl⟩) ⟨gblindH, va_recv hK hP (ci := 0) (q0 := k_141) rfl hk_162, fun U hU hW9 => gmkH hU hW9 hP hK hD hex hE hS hFc⟩ rfl rfl hl.1 rfl (lv_room (Nat.le_of_ble_eq_true rfl)) dX11_putInt_45 ⟨(show 0 + dc_148 + (PC ws_145 + (0)) ≤ PC ws + (0) from (by have e0 : (0 : Int32).toInt = 0 := (by decide); omega)), (show 0 + ds_149 + (PS ws_145 + (0)) ≤ PS ws + (0) from (by have e0 : (0 : Int32).toInt = 0 := (by decide); omega))⟩) hS (fun q _ h => hFc q h) hFc (fun  ws_167 t9 H1 locs ht9 hvm9 hw9 hB9 hz9 hk9 hS => ?_)
      obtain ⟨E_168, Fr_169, hG, hP1, hD1, dc_170, ds_171, hLd, hdc_170, hds_171⟩ := hB9
      rw [ht9] at hLd
      refine W_tight (hL0.tr hLd).1 (hL0.tr hLd).2.1 ?_
      clear hL0 hLd
      have hP : va_P (gD g) cl0 ws_167 H1 := by rw [← ht9]; exact hP1
      have hD : va_D A ws_167 := hD1.weaken (fun _ _ _ h => hFc _ h)
      have kf_172 := hw9
      clear hP1 hD1 hz9 hk9 hvm9 ht9 hw9
      generalize H1 = H at hP hS ⊢
      have aa_173 := a_r3_161
      have aa_174 := a_r4_161
      have aa_175 := a_r10_161
      have aa_176 := a_r11_161
      have aa_177 := a_r12_161
      have aa_178 := a_r13_161
      have aa_179 := a_r16_161
      have aa_180 := a_r17_161
      have aa_181 := a_r0_162
      have o_h0 := E_168.1 _ _ o_h0
      have tq_182 : wcP ws_167 h0 0 ((wb + 1) + 1) wc := wcP_1 hDW hG Fr_169 (by decide) (by decide) (by decide) (by decide) hkW rfl (fun k9 ci9 fs9 h9 c9 e9 => by have w9 := kf_172 _ _ _ h9 c9 e9; omega) tq_160
      refine lv_goto (tgt := 121) hx hb dX11_putInt_48 (by decide) ?_
      refine W_led (fun hLd => ?_)
      have hcl : 0 + dc_148 + dc_170 + PC ws_167 ≤ PC ws + (0) := (by omega)
      have hsl : 0 + ds_149 + ds_171 + PS ws_167 ≤ PS ws + (0) := (by omega)
      refine W.widen (k := PC ws + (0)) (n := PS ws + (0)) (by omega) (by omega) ?_
      have tq_183 : wcP ws_167 h0 0 (wb + 3) (wc + 0) := wcP_le (by omega) (by omega) (by omega) tq_182
      exact W.vret hx hb hr (fun t9 ht9 hW9 => ⟨⟨ws_167, rfl, ⟨trivial, tq_183⟩, ⟨(E_146.tr E_168), (gF.tr (gF.mo (F' := [(0, 0), (0, 1)]) (C' := [(0, 0), (6, 0)]) (S' := none) Fr_147 (fun _ h => h) (fun _ h => h) (Or.inl rfl)) (gF.mo (F' := [(0, 0), (0, 1)]) (C' := [(0, 0), (6, 0)]) (S' := none) Fr_169 (fun _ h => h) (fun _ h => h) (Or.inl rfl))), hG, by rw [ht9]; exact hP, hD, _, _, by rw [ht9]; exact hLd, hcl, hsl⟩⟩, hS.F ht9⟩) hS.2.2 dX11_putInt_121
  · refine lv_iload_n hx hb dX11_putInt_5 rfl (lv_at hl 1 rfl) ?_
    refine lv_iconst (v := 5) hx hb dX11_putInt_6 (by decide) ?_
    refine lv_icmp_gt (tgt := 23) hx hb dX11_putInt_7 (by decide) (fun c_184 => ?_) (fun c_184 => ?_)
    · refine lv_iload_n hx hb dX11_putInt_23 rfl (lv_at hl 1 rfl) ?_
      obtain ⟨z_185, ez_185⟩ : ∃ y : Int64, (x1 : Int32).toInt64 = y := ⟨_, rfl⟩
      refine lv_i2l (v := z_185) hx hb dX11_putInt_24 ez_185 ?_
      have hFc := gfree hD hS hA
      refine va_calli (va_runS (As := [.long z_185]) (rest := []) ⟨hx, hb, hml, hown, hts⟩ (m_X11_isByte l g s.heap.size ws (z_185) hG ) (va_cwS 1 hts (gd_S kw_204 kw_174 kw_83 kw_173) rfl rfl rfl (by decide +kernel) ⟨Nat.le_of_ble_eq_true rfl, Nat.le_of_ble_eq_true rfl⟩) ⟨gblind, fun U hU hW9 => gmk hU hW9 hP hK hD hex hE hS hFc⟩ rfl rfl hl.1 rfl (lv_room (Nat.le_of_ble_eq_true rfl)) dX11_putInt_25 ⟨(show 0 + 0 ≤ PC ws + (0) from (by have e0 : (0 : Int32).toInt = 0 := (by decide); omega)), (show 0 + 0 ≤ PS ws + (0) from (by have e0 : (0 : Int32).toInt = 0 := (by decide); omega))⟩) hS (fun q _ h => hFc q h) hFc (fun r_186 u9 t9 H1 locs ht9 hvm9 hw9 hB9 hz9 hk9 hS => ?_)
      have hP : va_P (gD g) cl0 ws H1 := by rw [← ht9]; exact hB9.1
      have hz_r_186 : r_186 = 0 ∨ r_186 = 1 := hw9
      clear hB9 hz9 hk9 hvm9 ht9 hw9
      generalize H1 = H at hP hS ⊢
      refine lv_if_eq (tgt := 51) hx hb dX11_putInt_28 (by decide) (fun c_187 => ?_) (fun c_187 => ?_)
      · refine lv_iload_n hx hb dX11_putInt_51 rfl (lv_at hl 1 rfl) ?_
        refine lv_iload_n hx hb dX11_putInt_52 rfl (lv_at hl 1 rfl) ?_
        obtain ⟨z_188, ez_188⟩ : ∃ y : Int32, (x1 : Int32).toInt16.toInt32 = y := ⟨_, rfl⟩
        refine lv_i2s (v := z_188) hx hb dX11_putInt_53 ez_188 ?_
        refine lv_icmp_ne (tgt := 77) hx hb dX11_putInt_54 (by decide) (fun c_189 => ?_) (fun c_189 => ?_)
        · refine lv_iload_n hx hb dX11_putInt_77 rfl (lv_at hl 2 rfl) ?_
          refine lv_sipush (v := 256) hx hb dX11_putInt_78 (by decide) ?_
          refine lv_icmp_ge (tgt := 104) hx hb dX11_putInt_81 (by decide) (fun c_190 => ?_) (fun c_190 => ?_)
          · refine lv_aload_n hx hb dX11_putInt_104 rfl (lv_at hl 0 rfl) ?_
            obtain ⟨k_191, fs9, hk_191⟩ := gC_of o_h0
            obtain ⟨r0_191, r1_191, r2_191, r3_191, n3_191, r4_191, n4_191, c5_191, c6_191, v7_191, c8_191, c9_191, r10_191, n10_191, r11_191, n11_191, r12_191, n12_191, r13_191, n13_191, r14_191, v15_191, r16_191, n16_191, r17_191, n17_191, rfl, o_r0_191, o_r1_191, o_r2_191, a_r3_191, f4_191, a_r4_191, f6_191, hz_c6_191, o_v7_191, a_r10_191, f10_191, a_r11_191, f12_191, a_r12_191, f14_191, a_r13_191, f16_191, o_r14_191, o_v15_191, a_r16_191, f20_191, a_r17_191, f22_191, f23_191, f24_191, f25_191, f26_191, f27_191, f28_191, -⟩ := (hG.1 _ _ _ _ hk_191).hX11 rfl
            refine va_get (D := gD g) (ci := 10) (v := .ref r1_191) (C := RX11) (T := TX11) (N := 18) hx hb hts inX11 hown hK hP k_191 hk_191 rfl 1 (by decide) (hts _ kw_94) (fun _ h9 => h9) rfl dX11_putInt_105 ?_
            refine lv_bipush (v := 19) hx hb dX11_putInt_108 (by decide) ?_
            obtain ⟨k_192, fs9, hk_192⟩ := gC_of o_r1_191
            obtain ⟨r0_192, n0_192, c1_192, rfl, a_r0_192, f1_192, f2_192, f3_192, f4_192, f5_192, -⟩ := (hG.1 _ _ _ _ hk_192).hX0 rfl
            have wb_193 : c1_192.toInt ≤ wb := wcP_u1 hD hk_191 rfl hk_192 rfl tk0
            have hkW := hk_191
            have hDW := hD
            have hFc := gfree hD hS hA
            have pg_194 := ge_10_17 hD hk_191 rfl a_r17_191
            have pg_195 := ge_0_0 hD hk_192 rfl a_r0_192
            refine W_led (fun hL0 => ?_)
            refine va_callv (va_runV (As := [.int 19]) (rest := []) ⟨hx, hb, hml, hown, hts⟩ (m_X0_put l g H ws r1_191 (19) (c1_192) hG o_r1_191 (gP_of hD hk_192 (fun q90 e90 => by cases e90; exact (by have q_f2_192 := f2_192; have q_f3_192 := f3_192; have q_wb_193 := wb_193; have q_pwc := pwc; have q_f1_192 := f1_192; have q_f4_192 := f4_192; have q_f5_192 := f5_192; have g_c1_192 := i_rg c1_192; omega))) (gP_of hD hk_192 (fun q90 e90 => by cases e90; exact (by have q_f2_192 := f2_192; have q_f3_192 := f3_192; have q_wb_193 := wb_193; have q_pwc := pwc; have q_f1_192 := f1_192; have q_f4_192 := f4_192; have q_f5_192 := f5_192; have g_c1_192 := i_rg c1_192; omega)))) (cwV 1 hts (gd_V kw_140 kw_13 kw_14 kw_3 kw_12) rfl rfl rfl (by decide +kernel) ⟨Nat.le_of_ble_eq_true rfl, Nat.le_of_ble_eq_true rfl⟩) ⟨gblindH, va_recv hK hP (ci := 0) (q0 := k_192) rfl hk_192, fun U hU hW9 => gmkH hU hW9 hP hK hD hex hE hS hFc⟩ rfl rfl hl.1 rfl (lv_room (Nat.le_of_ble_eq_true rfl)) dX11_putInt_110 ⟨(show 0 + (PC ws + (0)) ≤ PC ws + (0) from (by have e0 : (0 : Int32).toInt = 0 := (by decide); omega)), (show 0 + (PS ws + (0)) ≤ PS ws + (0) from (by have e0 : (0 : Int32).toInt = 0 := (by decide); omega))⟩) hS (fun q _ h => hFc q h) hFc (fun  ws_196 t9 H1 locs ht9 hvm9 hw9 hB9 hz9 hk9 hS => ?_)
            obtain ⟨E_197, Fr_198, hG, hP1, hD1, dc_199, ds_200, hLd, hdc_199, hds_200⟩ := hB9
            rw [ht9] at hLd
            refine W_tight (hL0.tr hLd).1 (hL0.tr hLd).2.1 ?_
            clear hL0 hLd
            have hP : va_P (gD g) cl0 ws_196 H1 := by rw [← ht9]; exact hP1
            have hD : va_D A ws_196 := hD1.weaken (fun _ _ _ h => hFc _ h)
            have kf_201 := hw9
            clear hP1 hD1 hz9 hk9 hvm9 ht9 hw9
            generalize H1 = H at hP hS ⊢
            have aa_202 := a_r3_191
            have aa_203 := a_r4_191
            have aa_204 := a_r10_191
            have aa_205 := a_r11_191
            have aa_206 := a_r12_191
            have aa_207 := a_r13_191
            have aa_208 := a_r16_191
            have aa_209 := a_r17_191
            have aa_210 := a_r0_192
            have o_h0 := E_197.1 _ _ o_h0
            have tq_211 : wcP ws_196 h0 0 (wb + 1) wc := wcP_1 hDW hG Fr_198 (by decide) (by decide) (by decide) (by decide) hkW rfl (fun k9 ci9 fs9 h9 c9 e9 => by have w9 := kf_201 _ _ _ h9 c9 e9; omega) tk0
            refine lv_aload_n hx hb dX11_putInt_113 rfl (lv_at hl 0 rfl) ?_
            obtain ⟨fs9, hk_212, hq_212⟩ := ((gF.a (F' := [(0, 0), (0, 1)]) Fr_198 (fun _ h => h))) _ _ _ hk_191
            obtain ⟨r0_212, r1_212, r2_212, r3_212, n3_212, r4_212, n4_212, c5_212, c6_212, v7_212, c8_212, c9_212, r10_212, n10_212, r11_212, n11_212, r12_212, n12_212, r13_212, n13_212, r14_212, v15_212, r16_212, n16_212, r17_212, n17_212, rfl, o_r0_212, o_r1_212, o_r2_212, a_r3_212, f4_212, a_r4_212, f6_212, hz_c6_212, o_v7_212, a_r10_212, f10_212, a_r11_212, f12_212, a_r12_212, f14_212, a_r13_212, f16_212, o_r14_212, o_v15_212, a_r16_212, f20_212, a_r17_212, f22_212, f23_212, f24_212, f25_212, f26_212, f27_212, f28_212, -⟩ := (hG.1 _ _ _ _ hk_212).hX11 rfl
            obtain rfl := fe_r (hq_212 1 (by decide))
            have o_r1_191 := o_r1_212
            obtain rfl := fe_q (hq_212 7 (by decide))
            have o_v7_191 := o_v7_212
            obtain rfl := fe_q (hq_212 15 (by decide))
            have o_v15_191 := o_v15_212
            refine va_get (D := gD g) (ci := 10) (v := .ref r1_191) (C := RX11) (T := TX11) (N := 18) hx hb hts inX11 hown hK hP k_191 hk_212 rfl 1 (by decide) (hts _ kw_94) (fun _ h9 => h9) rfl dX11_putInt_114 ?_
            refine lv_iload_n hx hb dX11_putInt_117 rfl (lv_at hl 2 rfl) ?_
            obtain ⟨fs9, hk_213, hq_213⟩ := ((gF.a (F' := [(0, 0), (0, 1)]) Fr_198 (fun _ h => h))) _ _ _ hk_192
            obtain ⟨r0_213, n0_213, c1_213, rfl, a_r0_213, f1_213, f2_213, f3_213, f4_213, f5_213, -⟩ := (hG.1 _ _ _ _ hk_213).hX0 rfl
            have kq_214 := kf_201 _ _ _ hk_213 _ rfl
            have wb_215 : c1_213.toInt ≤ (wb + 1) := wcP_u1 hD hk_212 rfl hk_213 rfl tq_211
            have hkW := hk_212
            have hDW := hD
            have hFc := gfree hD hS hA
            have pg_216 := ge_10_17 hD hk_212 rfl a_r17_212
            have pg_217 := ge_0_0 hD hk_213 rfl a_r0_213
            refine W_led (fun hL0 => ?_)
            refine va_callv (va_runV (As := [.int x2]) (rest := []) ⟨hx, hb, hml, hown, hts⟩ (m_X0_put2 l g H ws_196 r1_191 (x2) (c1_213) hG o_r1_191 (gP_of hD hk_213 (fun q90 e90 => by cases e90; exact (by have q_f2_213 := f2_213; have q_f3_213 := f3_213; have q_kq_214 := kq_214; have q_wb_215 := wb_215; have q_pwc := pwc; have q_f2_192 := f2_192; have q_f3_192 := f3_192; have q_wb_193 := wb_193; have q_f1_213 := f1_213; have q_f4_213 := f4_213; have q_f5_213 := f5_213; have q_f1_192 := f1_192; have q_f4_192 := f4_192; have q_f5_192 := f5_192; have g_c1_192 := i_rg c1_192; have g_c1_213 := i_rg c1_213; omega))) (gP_of hD hk_213 (fun q90 e90 => by cases e90; exact (by have q_f2_213 := f2_213; have q_f3_213 := f3_213; have q_kq_214 := kq_214; have q_wb_215 := wb_215; have q_pwc := pwc; have q_f2_192 := f2_192; have q_f3_192 := f3_192; have q_wb_193 := wb_193; have q_f1_213 := f1_213; have q_f4_213 := f4_213; have q_f5_213 := f5_213; have q_f1_192 := f1_192; have q_f4_192 := f4_192; have q_f5_192 := f5_192; have g_c1_192 := i_rg c1_192; have g_c1_213 := i_rg c1_213; omega)))) (cwV 1 hts (gd_V kw_96 kw_17 kw_18 kw_3 kw_16) rfl rfl rfl (by decide +kernel) ⟨Nat.le_of_ble_eq_true rfl, Nat.le_of_ble_eq_true rfl⟩) ⟨gblindH, va_recv hK hP (ci := 0) (q0 := k_192) rfl hk_213, fun U hU hW9 => gmkH hU hW9 hP hK hD hex hE hS hFc⟩ rfl rfl hl.1 rfl (lv_room (Nat.le_of_ble_eq_true rfl)) dX11_putInt_118 ⟨(show 0 + dc_199 + (PC ws_196 + (0)) ≤ PC ws + (0) from (by have e0 : (0 : Int32).toInt = 0 := (by decide); omega)), (show 0 + ds_200 + (PS ws_196 + (0)) ≤ PS ws + (0) from (by have e0 : (0 : Int32).toInt = 0 := (by decide); omega))⟩) hS (fun q _ h => hFc q h) hFc (fun  ws_218 t9 H1 locs ht9 hvm9 hw9 hB9 hz9 hk9 hS => ?_)
            obtain ⟨E_219, Fr_220, hG, hP1, hD1, dc_221, ds_222, hLd, hdc_221, hds_222⟩ := hB9
            rw [ht9] at hLd
            refine W_tight (hL0.tr hLd).1 (hL0.tr hLd).2.1 ?_
            clear hL0 hLd
            have hP : va_P (gD g) cl0 ws_218 H1 := by rw [← ht9]; exact hP1
            have hD : va_D A ws_218 := hD1.weaken (fun _ _ _ h => hFc _ h)
            have kf_223 := hw9
            clear hP1 hD1 hz9 hk9 hvm9 ht9 hw9
            generalize H1 = H at hP hS ⊢
            have aa_224 := a_r3_212
            have aa_225 := a_r4_212
            have aa_226 := a_r10_212
            have aa_227 := a_r11_212
            have aa_228 := a_r12_212
            have aa_229 := a_r13_212
            have aa_230 := a_r16_212
            have aa_231 := a_r17_212
            have aa_232 := a_r0_213
            have o_h0 := E_219.1 _ _ o_h0
            have tq_233 : wcP ws_218 h0 0 ((wb + 1) + 2) wc := wcP_1 hDW hG Fr_220 (by decide) (by decide) (by decide) (by decide) hkW rfl (fun k9 ci9 fs9 h9 c9 e9 => by have w9 := kf_223 _ _ _ h9 c9 e9; omega) tq_211
            refine W_led (fun hLd => ?_)
            have hcl : 0 + dc_199 + dc_221 + PC ws_218 ≤ PC ws + (0) := (by omega)
            have hsl : 0 + ds_200 + ds_222 + PS ws_218 ≤ PS ws + (0) := (by omega)
            refine W.widen (k := PC ws + (0)) (n := PS ws + (0)) (by omega) (by omega) ?_
            have tq_234 : wcP ws_218 h0 0 (wb + 3) (wc + 0) := wcP_le (by omega) (by omega) (by omega) tq_233
            exact W.vret hx hb hr (fun t9 ht9 hW9 => ⟨⟨ws_218, rfl, ⟨trivial, tq_234⟩, ⟨(E_197.tr E_219), (gF.tr (gF.mo (F' := [(0, 0), (0, 1)]) (C' := [(0, 0), (6, 0)]) (S' := none) Fr_198 (fun _ h => h) (fun _ h => h) (Or.inl rfl)) (gF.mo (F' := [(0, 0), (0, 1)]) (C' := [(0, 0), (6, 0)]) (S' := none) Fr_220 (fun _ h => h) (fun _ h => h) (Or.inl rfl))), hG, by rw [ht9]; exact hP, hD, _, _, by rw [ht9]; exact hLd, hcl, hsl⟩⟩, hS.F ht9⟩) hS.2.2 dX11_putInt_121
          · refine lv_aload_n hx hb dX11_putInt_84 rfl (lv_at hl 0 rfl) ?_
            obtain ⟨k_235, fs9, hk_235⟩ := gC_of o_h0
            obtain ⟨r0_235, r1_235, r2_235, r3_235, n3_235, r4_235, n4_235, c5_235, c6_235, v7_235, c8_235, c9_235, r10_235, n10_235, r11_235, n11_235, r12_235, n12_235, r13_235, n13_235, r14_235, v15_235, r16_235, n16_235, r17_235, n17_235, rfl, o_r0_235, o_r1_235, o_r2_235, a_r3_235, f4_235, a_r4_235, f6_235, hz_c6_235, o_v7_235, a_r10_235, f10_235, a_r11_235, f12_235, a_r12_235, f14_235, a_r13_235, f16_235, o_r14_235, o_v15_235, a_r16_235, f20_235, a_r17_235, f22_235, f23_235, f24_235, f25_235, f26_235, f27_235, f28_235, -⟩ := (hG.1 _ _ _ _ hk_235).hX11 rfl
            refine va_get (D := gD g) (ci := 10) (v := .ref r1_235) (C := RX11) (T := TX11) (N := 18) hx hb hts inX11 hown hK hP k_235 hk_235 rfl 1 (by decide) (hts _ kw_94) (fun _ h9 => h9) rfl dX11_putInt_85 ?_
            refine lv_bipush (v := 18) hx hb dX11_putInt_88 (by decide) ?_
            obtain ⟨k_236, fs9, hk_236⟩ := gC_of o_r1_235
            obtain ⟨r0_236, n0_236, c1_236, rfl, a_r0_236, f1_236, f2_236, f3_236, f4_236, f5_236, -⟩ := (hG.1 _ _ _ _ hk_236).hX0 rfl
            have wb_237 : c1_236.toInt ≤ wb := wcP_u1 hD hk_235 rfl hk_236 rfl tk0
            have hkW := hk_235
            have hDW := hD
            have hFc := gfree hD hS hA
            have pg_238 := ge_10_17 hD hk_235 rfl a_r17_235
            have pg_239 := ge_0_0 hD hk_236 rfl a_r0_236
            refine W_led (fun hL0 => ?_)
            refine va_callv (va_runV (As := [.int 18]) (rest := []) ⟨hx, hb, hml, hown, hts⟩ (m_X0_put l g H ws r1_235 (18) (c1_236) hG o_r1_235 (gP_of hD hk_236 (fun q90 e90 => by cases e90; exact (by have q_f2_236 := f2_236; have q_f3_236 := f3_236; have q_wb_237 := wb_237; have q_pwc := pwc; have q_f1_236 := f1_236; have q_f4_236 := f4_236; have q_f5_236 := f5_236; have g_c1_236 := i_rg c1_236; omega))) (gP_of hD hk_236 (fun q90 e90 => by cases e90; exact (by have q_f2_236 := f2_236; have q_f3_236 := f3_236; have q_wb_237 := wb_237; have q_pwc := pwc; have q_f1_236 := f1_236; have q_f4_236 := f4_236; have q_f5_236 := f5_236; have g_c1_236 := i_rg c1_236; omega)))) (cwV 1 hts (gd_V kw_140 kw_13 kw_14 kw_3 kw_12) rfl rfl rfl (by decide +kernel) ⟨Nat.le_of_ble_eq_true rfl, Nat.le_of_ble_eq_true rfl⟩) ⟨gblindH, va_recv hK hP (ci := 0) (q0 := k_236) rfl hk_236, fun U hU hW9 => gmkH hU hW9 hP hK hD hex hE hS hFc⟩ rfl rfl hl.1 rfl (lv_room (Nat.le_of_ble_eq_true rfl)) dX11_putInt_90 ⟨(show 0 + (PC ws + (0)) ≤ PC ws + (0) from (by have e0 : (0 : Int32).toInt = 0 := (by decide); omega)), (show 0 + (PS ws + (0)) ≤ PS ws + (0) from (by have e0 : (0 : Int32).toInt = 0 := (by decide); omega))⟩) hS (fun q _ h => hFc q h) hFc (fun  ws_240 t9 H1 locs ht9 hvm9 hw9 hB9 hz9 hk9 hS => ?_)
            obtain ⟨E_241, Fr_242, hG, hP1, hD1, dc_243, ds_244, hLd, hdc_243, hds_244⟩ := hB9
            rw [ht9] at hLd
            refine W_tight (hL0.tr hLd).1 (hL0.tr hLd).2.1 ?_
            clear hL0 hLd
            have hP : va_P (gD g) cl0 ws_240 H1 := by rw [← ht9]; exact hP1
            have hD : va_D A ws_240 := hD1.weaken (fun _ _ _ h => hFc _ h)
            have kf_245 := hw9
            clear hP1 hD1 hz9 hk9 hvm9 ht9 hw9
            generalize H1 = H at hP hS ⊢
            have aa_246 := a_r3_235
            have aa_247 := a_r4_235
            have aa_248 := a_r10_235
            have aa_249 := a_r11_235
            have aa_250 := a_r12_235
            have aa_251 := a_r13_235
            have aa_252 := a_r16_235
            have aa_253 := a_r17_235
            have aa_254 := a_r0_236
            have o_h0 := E_241.1 _ _ o_h0
            have tq_255 : wcP ws_240 h0 0 (wb + 1) wc := wcP_1 hDW hG Fr_242 (by decide) (by decide) (by decide) (by decide) hkW rfl (fun k9 ci9 fs9 h9 c9 e9 => by have w9 := kf_245 _ _ _ h9 c9 e9; omega) tk0
            refine lv_aload_n hx hb dX11_putInt_93 rfl (lv_at hl 0 rfl) ?_
            obtain ⟨fs9, hk_256, hq_256⟩ := ((gF.a (F' := [(0, 0), (0, 1)]) Fr_242 (fun _ h => h))) _ _ _ hk_235
            obtain ⟨r0_256, r1_256, r2_256, r3_256, n3_256, r4_256, n4_256, c5_256, c6_256, v7_256, c8_256, c9_256, r10_256, n10_256, r11_256, n11_256, r12_256, n12_256, r13_256, n13_256, r14_256, v15_256, r16_256, n16_256, r17_256, n17_256, rfl, o_r0_256, o_r1_256, o_r2_256, a_r3_256, f4_256, a_r4_256, f6_256, hz_c6_256, o_v7_256, a_r10_256, f10_256, a_r11_256, f12_256, a_r12_256, f14_256, a_r13_256, f16_256, o_r14_256, o_v15_256, a_r16_256, f20_256, a_r17_256, f22_256, f23_256, f24_256, f25_256, f26_256, f27_256, f28_256, -⟩ := (hG.1 _ _ _ _ hk_256).hX11 rfl
            obtain rfl := fe_r (hq_256 1 (by decide))
            have o_r1_235 := o_r1_256
            obtain rfl := fe_q (hq_256 7 (by decide))
            have o_v7_235 := o_v7_256
            obtain rfl := fe_q (hq_256 15 (by decide))
            have o_v15_235 := o_v15_256
            refine va_get (D := gD g) (ci := 10) (v := .ref r1_235) (C := RX11) (T := TX11) (N := 18) hx hb hts inX11 hown hK hP k_235 hk_256 rfl 1 (by decide) (hts _ kw_94) (fun _ h9 => h9) rfl dX11_putInt_94 ?_
            refine lv_iload_n hx hb dX11_putInt_97 rfl (lv_at hl 2 rfl) ?_
            obtain ⟨fs9, hk_257, hq_257⟩ := ((gF.a (F' := [(0, 0), (0, 1)]) Fr_242 (fun _ h => h))) _ _ _ hk_236
            obtain ⟨r0_257, n0_257, c1_257, rfl, a_r0_257, f1_257, f2_257, f3_257, f4_257, f5_257, -⟩ := (hG.1 _ _ _ _ hk_257).hX0 rfl
            have kq_258 := kf_245 _ _ _ hk_257 _ rfl
            have wb_259 : c1_257.toInt ≤ (wb + 1) := wcP_u1 hD hk_256 rfl hk_257 rfl tq_255
            have hkW := hk_256
            have hDW := hD
            have hFc := gfree hD hS hA
            have pg_260 := ge_10_17 hD hk_256 rfl a_r17_256
            have pg_261 := ge_0_0 hD hk_257 rfl a_r0_257
            refine W_led (fun hL0 => ?_)
            refine va_callv (va_runV (As := [.int x2]) (rest := []) ⟨hx, hb, hml, hown, hts⟩ (m_X0_put l g H ws_240 r1_235 (x2) (c1_257) hG o_r1_235 (gP_of hD hk_257 (fun q90 e90 => by cases e90; exact (by have q_f2_257 := f2_257; have q_f3_257 := f3_257; have q_kq_258 := kq_258; have q_wb_259 := wb_259; have q_pwc := pwc; have q_f2_236 := f2_236; have q_f3_236 := f3_236; have q_wb_237 := wb_237; have q_f1_257 := f1_257; have q_f4_257 := f4_257; have q_f5_257 := f5_257; have q_f1_236 := f1_236; have q_f4_236 := f4_236; have q_f5_236 := f5_236; have g_c1_236 := i_rg c1_236; have g_c1_257 := i_rg c1_257; omega))) (gP_of hD hk_257 (fun q90 e90 => by cases e90; exact (by have q_f2_257 := f2_257; have q_f3_257 := f3_257; have q_kq_258 := kq_258; have q_wb_259 := wb_259; have q_pwc := pwc; have q_f2_236 := f2_236; have q_f3_236 := f3_236; have q_wb_237 := wb_237; have q_f1_257 := f1_257; have q_f4_257 := f4_257; have q_f5_257 := f5_257; have q_f1_236 := f1_236; have q_f4_236 := f4_236; have q_f5_236 := f5_236; have g_c1_236 := i_rg c1_236; have g_c1_257 := i_rg c1_257; omega)))) (cwV 1 hts (gd_V kw_140 kw_13 kw_14 kw_3 kw_12) rfl rfl rfl (by decide +kernel) ⟨Nat.le_of_ble_eq_true rfl, Nat.le_of_ble_eq_true rfl⟩) ⟨gblindH, va_recv hK hP (ci := 0) (q0 := k_236) rfl hk_257, fun U hU hW9 => gmkH hU hW9 hP hK hD hex hE hS hFc⟩ rfl rfl hl.1 rfl (lv_room (Nat.le_of_ble_eq_true rfl)) dX11_putInt_98 ⟨(show 0 + dc_243 + (PC ws_240 + (0)) ≤ PC ws + (0) from (by have e0 : (0 : Int32).toInt = 0 := (by decide); omega)), (show 0 + ds_244 + (PS ws_240 + (0)) ≤ PS ws + (0) from (by have e0 : (0 : Int32).toInt = 0 := (by decide); omega))⟩) hS (fun q _ h => hFc q h) hFc (fun  ws_262 t9 H1 locs ht9 hvm9 hw9 hB9 hz9 hk9 hS => ?_)
            obtain ⟨E_263, Fr_264, hG, hP1, hD1, dc_265, ds_266, hLd, hdc_265, hds_266⟩ := hB9
            rw [ht9] at hLd
            refine W_tight (hL0.tr hLd).1 (hL0.tr hLd).2.1 ?_
            clear hL0 hLd
            have hP : va_P (gD g) cl0 ws_262 H1 := by rw [← ht9]; exact hP1
            have hD : va_D A ws_262 := hD1.weaken (fun _ _ _ h => hFc _ h)
            have kf_267 := hw9
            clear hP1 hD1 hz9 hk9 hvm9 ht9 hw9
            generalize H1 = H at hP hS ⊢
            have aa_268 := a_r3_256
            have aa_269 := a_r4_256
            have aa_270 := a_r10_256
            have aa_271 := a_r11_256
            have aa_272 := a_r12_256
            have aa_273 := a_r13_256
            have aa_274 := a_r16_256
            have aa_275 := a_r17_256
            have aa_276 := a_r0_257
            have o_h0 := E_263.1 _ _ o_h0
            have tq_277 : wcP ws_262 h0 0 ((wb + 1) + 1) wc := wcP_1 hDW hG Fr_264 (by decide) (by decide) (by decide) (by decide) hkW rfl (fun k9 ci9 fs9 h9 c9 e9 => by have w9 := kf_267 _ _ _ h9 c9 e9; omega) tq_255
            refine lv_goto (tgt := 121) hx hb dX11_putInt_101 (by decide) ?_
            refine W_led (fun hLd => ?_)
            have hcl : 0 + dc_243 + dc_265 + PC ws_262 ≤ PC ws + (0) := (by omega)
            have hsl : 0 + ds_244 + ds_266 + PS ws_262 ≤ PS ws + (0) := (by omega)
            refine W.widen (k := PC ws + (0)) (n := PS ws + (0)) (by omega) (by omega) ?_
            have tq_278 : wcP ws_262 h0 0 (wb + 3) (wc + 0) := wcP_le (by omega) (by omega) (by omega) tq_277
            exact W.vret hx hb hr (fun t9 ht9 hW9 => ⟨⟨ws_262, rfl, ⟨trivial, tq_278⟩, ⟨(E_241.tr E_263), (gF.tr (gF.mo (F' := [(0, 0), (0, 1)]) (C' := [(0, 0), (6, 0)]) (S' := none) Fr_242 (fun _ h => h) (fun _ h => h) (Or.inl rfl)) (gF.mo (F' := [(0, 0), (0, 1)]) (C' := [(0, 0), (6, 0)]) (S' := none) Fr_264 (fun _ h => h) (fun _ h => h) (Or.inl rfl))), hG, by rw [ht9]; exact hP, hD, _, _, by rw [ht9]; exact hLd, hcl, hsl⟩⟩, hS.F ht9⟩) hS.2.2 dX11_putInt_121
        · refine lv_aload_n hx hb dX11_putInt_57 rfl (lv_at hl 0 rfl) ?_
          obtain ⟨k_279, fs9, hk_279⟩ := gC_of o_h0
          obtain ⟨r0_279, r1_279, r2_279, r3_279, n3_279, r4_279, n4_279, c5_279, c6_279, v7_279, c8_279, c9_279, r10_279, n10_279, r11_279, n11_279, r12_279, n12_279, r13_279, n13_279, r14_279, v15_279, r16_279, n16_279, r17_279, n17_279, rfl, o_r0_279, o_r1_279, o_r2_279, a_r3_279, f4_279, a_r4_279, f6_279, hz_c6_279, o_v7_279, a_r10_279, f10_279, a_r11_279, f12_279, a_r12_279, f14_279, a_r13_279, f16_279, o_r14_279, o_v15_279, a_r16_279, f20_279, a_r17_279, f22_279, f23_279, f24_279, f25_279, f26_279, f27_279, f28_279, -⟩ := (hG.1 _ _ _ _ hk_279).hX11 rfl
          refine va_get (D := gD g) (ci := 10) (v := .ref r1_279) (C := RX11) (T := TX11) (N := 18) hx hb hts inX11 hown hK hP k_279 hk_279 rfl 1 (by decide) (hts _ kw_94) (fun _ h9 => h9) rfl dX11_putInt_58 ?_
          refine lv_bipush (v := 17) hx hb dX11_putInt_61 (by decide) ?_
          obtain ⟨k_280, fs9, hk_280⟩ := gC_of o_r1_279
          obtain ⟨r0_280, n0_280, c1_280, rfl, a_r0_280, f1_280, f2_280, f3_280, f4_280, f5_280, -⟩ := (hG.1 _ _ _ _ hk_280).hX0 rfl
          have wb_281 : c1_280.toInt ≤ wb := wcP_u1 hD hk_279 rfl hk_280 rfl tk0
          have hkW := hk_279
          have hDW := hD
          have hFc := gfree hD hS hA
          have pg_282 := ge_10_17 hD hk_279 rfl a_r17_279
          have pg_283 := ge_0_0 hD hk_280 rfl a_r0_280
          refine W_led (fun hL0 => ?_)
          refine va_callv (va_runV (As := [.int 17]) (rest := []) ⟨hx, hb, hml, hown, hts⟩ (m_X0_put l g H ws r1_279 (17) (c1_280) hG o_r1_279 (gP_of hD hk_280 (fun q90 e90 => by cases e90; exact (by have q_f2_280 := f2_280; have q_f3_280 := f3_280; have q_wb_281 := wb_281; have q_pwc := pwc; have q_f1_280 := f1_280; have q_f4_280 := f4_280; have q_f5_280 := f5_280; have g_c1_280 := i_rg c1_280; omega))) (gP_of hD hk_280 (fun q90 e90 => by cases e90; exact (by have q_f2_280 := f2_280; have q_f3_280 := f3_280; have q_wb_281 := wb_281; have q_pwc := pwc; have q_f1_280 := f1_280; have q_f4_280 := f4_280; have q_f5_280 := f5_280; have g_c1_280 := i_rg c1_280; omega)))) (cwV 1 hts (gd_V kw_140 kw_13 kw_14 kw_3 kw_12) rfl rfl rfl (by decide +kernel) ⟨Nat.le_of_ble_eq_true rfl, Nat.le_of_ble_eq_true rfl⟩) ⟨gblindH, va_recv hK hP (ci := 0) (q0 := k_280) rfl hk_280, fun U hU hW9 => gmkH hU hW9 hP hK hD hex hE hS hFc⟩ rfl rfl hl.1 rfl (lv_room (Nat.le_of_ble_eq_true rfl)) dX11_putInt_63 ⟨(show 0 + (PC ws + (0)) ≤ PC ws + (0) from (by have e0 : (0 : Int32).toInt = 0 := (by decide); omega)), (show 0 + (PS ws + (0)) ≤ PS ws + (0) from (by have e0 : (0 : Int32).toInt = 0 := (by decide); omega))⟩) hS (fun q _ h => hFc q h) hFc (fun  ws_284 t9 H1 locs ht9 hvm9 hw9 hB9 hz9 hk9 hS => ?_)
          obtain ⟨E_285, Fr_286, hG, hP1, hD1, dc_287, ds_288, hLd, hdc_287, hds_288⟩ := hB9
          rw [ht9] at hLd
          refine W_tight (hL0.tr hLd).1 (hL0.tr hLd).2.1 ?_
          clear hL0 hLd
          have hP : va_P (gD g) cl0 ws_284 H1 := by rw [← ht9]; exact hP1
          have hD : va_D A ws_284 := hD1.weaken (fun _ _ _ h => hFc _ h)
          have kf_289 := hw9
          clear hP1 hD1 hz9 hk9 hvm9 ht9 hw9
          generalize H1 = H at hP hS ⊢
          have aa_290 := a_r3_279
          have aa_291 := a_r4_279
          have aa_292 := a_r10_279
          have aa_293 := a_r11_279
          have aa_294 := a_r12_279
          have aa_295 := a_r13_279
          have aa_296 := a_r16_279
          have aa_297 := a_r17_279
          have aa_298 := a_r0_280
          have o_h0 := E_285.1 _ _ o_h0
          have tq_299 : wcP ws_284 h0 0 (wb + 1) wc := wcP_1 hDW hG Fr_286 (by decide) (by decide) (by decide) (by decide) hkW rfl (fun k9 ci9 fs9 h9 c9 e9 => by have w9 := kf_289 _ _ _ h9 c9 e9; omega) tk0
          refine lv_aload_n hx hb dX11_putInt_66 rfl (lv_at hl 0 rfl) ?_
          obtain ⟨fs9, hk_300, hq_300⟩ := ((gF.a (F' := [(0, 0), (0, 1)]) Fr_286 (fun _ h => h))) _ _ _ hk_279
          obtain ⟨r0_300, r1_300, r2_300, r3_300, n3_300, r4_300, n4_300, c5_300, c6_300, v7_300, c8_300, c9_300, r10_300, n10_300, r11_300, n11_300, r12_300, n12_300, r13_300, n13_300, r14_300, v15_300, r16_300, n16_300, r17_300, n17_300, rfl, o_r0_300, o_r1_300, o_r2_300, a_r3_300, f4_300, a_r4_300, f6_300, hz_c6_300, o_v7_300, a_r10_300, f10_300, a_r11_300, f12_300, a_r12_300, f14_300, a_r13_300, f16_300, o_r14_300, o_v15_300, a_r16_300, f20_300, a_r17_300, f22_300, f23_300, f24_300, f25_300, f26_300, f27_300, f28_300, -⟩ := (hG.1 _ _ _ _ hk_300).hX11 rfl
          obtain rfl := fe_r (hq_300 1 (by decide))
          have o_r1_279 := o_r1_300
          obtain rfl := fe_q (hq_300 7 (by decide))
          have o_v7_279 := o_v7_300
          obtain rfl := fe_q (hq_300 15 (by decide))
          have o_v15_279 := o_v15_300
          refine va_get (D := gD g) (ci := 10) (v := .ref r1_279) (C := RX11) (T := TX11) (N := 18) hx hb hts inX11 hown hK hP k_279 hk_300 rfl 1 (by decide) (hts _ kw_94) (fun _ h9 => h9) rfl dX11_putInt_67 ?_
          refine lv_iload_n hx hb dX11_putInt_70 rfl (lv_at hl 1 rfl) ?_
          obtain ⟨fs9, hk_301, hq_301⟩ := ((gF.a (F' := [(0, 0), (0, 1)]) Fr_286 (fun _ h => h))) _ _ _ hk_280
          obtain ⟨r0_301, n0_301, c1_301, rfl, a_r0_301, f1_301, f2_301, f3_301, f4_301, f5_301, -⟩ := (hG.1 _ _ _ _ hk_301).hX0 rfl
          have kq_302 := kf_289 _ _ _ hk_301 _ rfl
          have wb_303 : c1_301.toInt ≤ (wb + 1) := wcP_u1 hD hk_300 rfl hk_301 rfl tq_299
          have hkW := hk_300
          have hDW := hD
          have hFc := gfree hD hS hA
          have pg_304 := ge_10_17 hD hk_300 rfl a_r17_300
          have pg_305 := ge_0_0 hD hk_301 rfl a_r0_301
          refine W_led (fun hL0 => ?_)
          refine va_callv (va_runV (As := [.int x1]) (rest := []) ⟨hx, hb, hml, hown, hts⟩ (m_X0_put2 l g H ws_284 r1_279 (x1) (c1_301) hG o_r1_279 (gP_of hD hk_301 (fun q90 e90 => by cases e90; exact (by have q_f2_301 := f2_301; have q_f3_301 := f3_301; have q_kq_302 := kq_302; have q_wb_303 := wb_303; have q_pwc := pwc; have q_f2_280 := f2_280; have q_f3_280 := f3_280; have q_wb_281 := wb_281; have q_f1_301 := f1_301; have q_f4_301 := f4_301; have q_f5_301 := f5_301; have q_f1_280 := f1_280; have q_f4_280 := f4_280; have q_f5_280 := f5_280; have g_c1_280 := i_rg c1_280; have g_c1_301 := i_rg c1_301; omega))) (gP_of hD hk_301 (fun q90 e90 => by cases e90; exact (by have q_f2_301 := f2_301; have q_f3_301 := f3_301; have q_kq_302 := kq_302; have q_wb_303 := wb_303; have q_pwc := pwc; have q_f2_280 := f2_280; have q_f3_280 := f3_280; have q_wb_281 := wb_281; have q_f1_301 := f1_301; have q_f4_301 := f4_301; have q_f5_301 := f5_301; have q_f1_280 := f1_280; have q_f4_280 := f4_280; have q_f5_280 := f5_280; have g_c1_280 := i_rg c1_280; have g_c1_301 := i_rg c1_301; omega)))) (cwV 1 hts (gd_V kw_96 kw_17 kw_18 kw_3 kw_16) rfl rfl rfl (by decide +kernel) ⟨Nat.le_of_ble_eq_true rfl, Nat.le_of_ble_eq_true rfl⟩) ⟨gblindH, va_recv hK hP (ci := 0) (q0 := k_280) rfl hk_301, fun U hU hW9 => gmkH hU hW9 hP hK hD hex hE hS hFc⟩ rfl rfl hl.1 rfl (lv_room (Nat.le_of_ble_eq_true rfl)) dX11_putInt_71 ⟨(show 0 + dc_287 + (PC ws_284 + (0)) ≤ PC ws + (0) from (by have e0 : (0 : Int32).toInt = 0 := (by decide); omega)), (show 0 + ds_288 + (PS ws_284 + (0)) ≤ PS ws + (0) from (by have e0 : (0 : Int32).toInt = 0 := (by decide); omega))⟩) hS (fun q _ h => hFc q h) hFc (fun  ws_306 t9 H1 locs ht9 hvm9 hw9 hB9 hz9 hk9 hS => ?_)
          obtain ⟨E_307, Fr_308, hG, hP1, hD1, dc_309, ds_310, hLd, hdc_309, hds_310⟩ := hB9
          rw [ht9] at hLd
          refine W_tight (hL0.tr hLd).1 (hL0.tr hLd).2.1 ?_
          clear hL0 hLd
          have hP : va_P (gD g) cl0 ws_306 H1 := by rw [← ht9]; exact hP1
          have hD : va_D A ws_306 := hD1.weaken (fun _ _ _ h => hFc _ h)
          have kf_311 := hw9
          clear hP1 hD1 hz9 hk9 hvm9 ht9 hw9
          generalize H1 = H at hP hS ⊢
          have aa_312 := a_r3_300
          have aa_313 := a_r4_300
          have aa_314 := a_r10_300
          have aa_315 := a_r11_300
          have aa_316 := a_r12_300
          have aa_317 := a_r13_300
          have aa_318 := a_r16_300
          have aa_319 := a_r17_300
          have aa_320 := a_r0_301
          have o_h0 := E_307.1 _ _ o_h0
          have tq_321 : wcP ws_306 h0 0 ((wb + 1) + 2) wc := wcP_1 hDW hG Fr_308 (by decide) (by decide) (by decide) (by decide) hkW rfl (fun k9 ci9 fs9 h9 c9 e9 => by have w9 := kf_311 _ _ _ h9 c9 e9; omega) tq_299
          refine lv_goto (tgt := 121) hx hb dX11_putInt_74 (by decide) ?_
          refine W_led (fun hLd => ?_)
          have hcl : 0 + dc_287 + dc_309 + PC ws_306 ≤ PC ws + (0) := (by omega)
          have hsl : 0 + ds_288 + ds_310 + PS ws_306 ≤ PS ws + (0) := (by omega)
          refine W.widen (k := PC ws + (0)) (n := PS ws + (0)) (by omega) (by omega) ?_
          have tq_322 : wcP ws_306 h0 0 (wb + 3) (wc + 0) := wcP_le (by omega) (by omega) (by omega) tq_321
          exact W.vret hx hb hr (fun t9 ht9 hW9 => ⟨⟨ws_306, rfl, ⟨trivial, tq_322⟩, ⟨(E_285.tr E_307), (gF.tr (gF.mo (F' := [(0, 0), (0, 1)]) (C' := [(0, 0), (6, 0)]) (S' := none) Fr_286 (fun _ h => h) (fun _ h => h) (Or.inl rfl)) (gF.mo (F' := [(0, 0), (0, 1)]) (C' := [(0, 0), (6, 0)]) (S' := none) Fr_308 (fun _ h => h) (fun _ h => h) (Or.inl rfl))), hG, by rw [ht9]; exact hP, hD, _, _, by rw [ht9]; exact hLd, hcl, hsl⟩⟩, hS.F ht9⟩) hS.2.2 dX11_putInt_121
      · refine lv_aload_n hx hb dX11_putInt_31 rfl (lv_at hl 0 rfl) ?_
        obtain ⟨k_323, fs9, hk_323⟩ := gC_of o_h0
        obtain ⟨r0_323, r1_323, r2_323, r3_323, n3_323, r4_323, n4_323, c5_323, c6_323, v7_323, c8_323, c9_323, r10_323, n10_323, r11_323, n11_323, r12_323, n12_323, r13_323, n13_323, r14_323, v15_323, r16_323, n16_323, r17_323, n17_323, rfl, o_r0_323, o_r1_323, o_r2_323, a_r3_323, f4_323, a_r4_323, f6_323, hz_c6_323, o_v7_323, a_r10_323, f10_323, a_r11_323, f12_323, a_r12_323, f14_323, a_r13_323, f16_323, o_r14_323, o_v15_323, a_r16_323, f20_323, a_r17_323, f22_323, f23_323, f24_323, f25_323, f26_323, f27_323, f28_323, -⟩ := (hG.1 _ _ _ _ hk_323).hX11 rfl
        refine va_get (D := gD g) (ci := 10) (v := .ref r1_323) (C := RX11) (T := TX11) (N := 18) hx hb hts inX11 hown hK hP k_323 hk_323 rfl 1 (by decide) (hts _ kw_94) (fun _ h9 => h9) rfl dX11_putInt_32 ?_
        refine lv_bipush (v := 16) hx hb dX11_putInt_35 (by decide) ?_
        obtain ⟨k_324, fs9, hk_324⟩ := gC_of o_r1_323
        obtain ⟨r0_324, n0_324, c1_324, rfl, a_r0_324, f1_324, f2_324, f3_324, f4_324, f5_324, -⟩ := (hG.1 _ _ _ _ hk_324).hX0 rfl
        have wb_325 : c1_324.toInt ≤ wb := wcP_u1 hD hk_323 rfl hk_324 rfl tk0
        have hkW := hk_323
        have hDW := hD
        have hFc := gfree hD hS hA
        have pg_326 := ge_10_17 hD hk_323 rfl a_r17_323
        have pg_327 := ge_0_0 hD hk_324 rfl a_r0_324
        refine W_led (fun hL0 => ?_)
        refine va_callv (va_runV (As := [.int 16]) (rest := []) ⟨hx, hb, hml, hown, hts⟩ (m_X0_put l g H ws r1_323 (16) (c1_324) hG o_r1_323 (gP_of hD hk_324 (fun q90 e90 => by cases e90; exact (by have q_f2_324 := f2_324; have q_f3_324 := f3_324; have q_wb_325 := wb_325; have q_pwc := pwc; have q_f1_324 := f1_324; have q_f4_324 := f4_324; have q_f5_324 := f5_324; have g_c1_324 := i_rg c1_324; omega))) (gP_of hD hk_324 (fun q90 e90 => by cases e90; exact (by have q_f2_324 := f2_324; have q_f3_324 := f3_324; have q_wb_325 := wb_325; have q_pwc := pwc; have q_f1_324 := f1_324; have q_f4_324 := f4_324; have q_f5_324 := f5_324; have g_c1_324 := i_rg c1_324; omega)))) (cwV 1 hts (gd_V kw_140 kw_13 kw_14 kw_3 kw_12) rfl rfl rfl (by decide +kernel) ⟨Nat.le_of_ble_eq_true rfl, Nat.le_of_ble_eq_true rfl⟩) ⟨gblindH, va_recv hK hP (ci := 0) (q0 := k_324) rfl hk_324, fun U hU hW9 => gmkH hU hW9 hP hK hD hex hE hS hFc⟩ rfl rfl hl.1 rfl (lv_room (Nat.le_of_ble_eq_true rfl)) dX11_putInt_37 ⟨(show 0 + (PC ws + (0)) ≤ PC ws + (0) from (by have e0 : (0 : Int32).toInt = 0 := (by decide); omega)), (show 0 + (PS ws + (0)) ≤ PS ws + (0) from (by have e0 : (0 : Int32).toInt = 0 := (by decide); omega))⟩) hS (fun q _ h => hFc q h) hFc (fun  ws_328 t9 H1 locs ht9 hvm9 hw9 hB9 hz9 hk9 hS => ?_)
        obtain ⟨E_329, Fr_330, hG, hP1, hD1, dc_331, ds_332, hLd, hdc_331, hds_332⟩ := hB9
        rw [ht9] at hLd
        refine W_tight (hL0.tr hLd).1 (hL0.tr hLd).2.1 ?_
        clear hL0 hLd
        have hP : va_P (gD g) cl0 ws_328 H1 := by rw [← ht9]; exact hP1
        have hD : va_D A ws_328 := hD1.weaken (fun _ _ _ h => hFc _ h)
        have kf_333 := hw9
        clear hP1 hD1 hz9 hk9 hvm9 ht9 hw9
        generalize H1 = H at hP hS ⊢
        have aa_334 := a_r3_323
        have aa_335 := a_r4_323
        have aa_336 := a_r10_323
        have aa_337 := a_r11_323
        have aa_338 := a_r12_323
        have aa_339 := a_r13_323
        have aa_340 := a_r16_323
        have aa_341 := a_r17_323
        have aa_342 := a_r0_324
        have o_h0 := E_329.1 _ _ o_h0
        have tq_343 : wcP ws_328 h0 0 (wb + 1) wc := wcP_1 hDW hG Fr_330 (by decide) (by decide) (by decide) (by decide) hkW rfl (fun k9 ci9 fs9 h9 c9 e9 => by have w9 := kf_333 _ _ _ h9 c9 e9; omega) tk0
        refine lv_aload_n hx hb dX11_putInt_40 rfl (lv_at hl 0 rfl) ?_
        obtain ⟨fs9, hk_344, hq_344⟩ := ((gF.a (F' := [(0, 0), (0, 1)]) Fr_330 (fun _ h => h))) _ _ _ hk_323
        obtain ⟨r0_344, r1_344, r2_344, r3_344, n3_344, r4_344, n4_344, c5_344, c6_344, v7_344, c8_344, c9_344, r10_344, n10_344, r11_344, n11_344, r12_344, n12_344, r13_344, n13_344, r14_344, v15_344, r16_344, n16_344, r17_344, n17_344, rfl, o_r0_344, o_r1_344, o_r2_344, a_r3_344, f4_344, a_r4_344, f6_344, hz_c6_344, o_v7_344, a_r10_344, f10_344, a_r11_344, f12_344, a_r12_344, f14_344, a_r13_344, f16_344, o_r14_344, o_v15_344, a_r16_344, f20_344, a_r17_344, f22_344, f23_344, f24_344, f25_344, f26_344, f27_344, f28_344, -⟩ := (hG.1 _ _ _ _ hk_344).hX11 rfl
        obtain rfl := fe_r (hq_344 1 (by decide))
        have o_r1_323 := o_r1_344
        obtain rfl := fe_q (hq_344 7 (by decide))
        have o_v7_323 := o_v7_344
        obtain rfl := fe_q (hq_344 15 (by decide))
        have o_v15_323 := o_v15_344
        refine va_get (D := gD g) (ci := 10) (v := .ref r1_323) (C := RX11) (T := TX11) (N := 18) hx hb hts inX11 hown hK hP k_323 hk_344 rfl 1 (by decide) (hts _ kw_94) (fun _ h9 => h9) rfl dX11_putInt_41 ?_
        refine lv_iload_n hx hb dX11_putInt_44 rfl (lv_at hl 1 rfl) ?_
        obtain ⟨fs9, hk_345, hq_345⟩ := ((gF.a (F' := [(0, 0), (0, 1)]) Fr_330 (fun _ h => h))) _ _ _ hk_324
        obtain ⟨r0_345, n0_345, c1_345, rfl, a_r0_345, f1_345, f2_345, f3_345, f4_345, f5_345, -⟩ := (hG.1 _ _ _ _ hk_345).hX0 rfl
        have kq_346 := kf_333 _ _ _ hk_345 _ rfl
        have wb_347 : c1_345.toInt ≤ (wb + 1) := wcP_u1 hD hk_344 rfl hk_345 rfl tq_343
        have hkW := hk_344
        have hDW := hD
        have hFc := gfree hD hS hA
        have pg_348 := ge_10_17 hD hk_344 rfl a_r17_344
        have pg_349 := ge_0_0 hD hk_345 rfl a_r0_345
        refine W_led (fun hL0 => ?_)
        refine va_callv (va_runV (As := [.int x1]) (rest := []) ⟨hx, hb, hml, hown, hts⟩ (m_X0_put l g H ws_328 r1_323 (x1) (c1_345) hG o_r1_323 (gP_of hD hk_345 (fun q90 e90 => by cases e90; exact (by have q_f2_345 := f2_345; have q_f3_345 := f3_345; have q_kq_346 := kq_346; have q_wb_347 := wb_347; have q_pwc := pwc; have q_f2_324 := f2_324; have q_f3_324 := f3_324; have q_wb_325 := wb_325; have q_f1_345 := f1_345; have q_f4_345 := f4_345; have q_f5_345 := f5_345; have q_f1_324 := f1_324; have q_f4_324 := f4_324; have q_f5_324 := f5_324; have g_c1_324 := i_rg c1_324; have g_c1_345 := i_rg c1_345; omega))) (gP_of hD hk_345 (fun q90 e90 => by cases e90; exact (by have q_f2_345 := f2_345; have q_f3_345 := f3_345; have q_kq_346 := kq_346; have q_wb_347 := wb_347; have q_pwc := pwc; have q_f2_324 := f2_324; have q_f3_324 := f3_324; have q_wb_325 := wb_325; have q_f1_345 := f1_345; have q_f4_345 := f4_345; have q_f5_345 := f5_345; have q_f1_324 := f1_324; have q_f4_324 := f4_324; have q_f5_324 := f5_324; have g_c1_324 := i_rg c1_324; have g_c1_345 := i_rg c1_345; omega)))) (cwV 1 hts (gd_V kw_140 kw_13 kw_14 kw_3 kw_12) rfl rfl rfl (by decide +kernel) ⟨Nat.le_of_ble_eq_true rfl, Nat.le_of_ble_eq_true rfl⟩) ⟨gblindH, va_recv hK hP (ci := 0) (q0 := k_324) rfl hk_345, fun U hU hW9 => gmkH hU hW9 hP hK hD hex hE hS hFc⟩ rfl rfl hl.1 rfl (lv_room (Nat.le_of_ble_eq_true rfl)) dX11_putInt_45 ⟨(show 0 + dc_331 + (PC ws_328 + (0)) ≤ PC ws + (0) from (by have e0 : (0 : Int32).toInt = 0 := (by decide); omega)), (show 0 + ds_332 + (PS ws_328 + (0)) ≤ PS ws + (0) from (by have e0 : (0 : Int32).toInt = 0 := (by decide); omega))⟩) hS (fun q _ h => hFc q h) hFc (fun  ws_350 t9 H1 locs ht9 hvm9 hw9 hB9 hz9 hk9 hS => ?_)
        obtain ⟨E_351, Fr_352, hG, hP1, hD1, dc_353, ds_354, hLd, hdc_353, hds_354⟩ := hB9
        rw [ht9] at hLd
        refine W_tight (hL0.tr hLd).1 (hL0.tr hLd).2.1 ?_
        clear hL0 hLd
        have hP : va_P (gD g) cl0 ws_350 H1 := by rw [← ht9]; exact hP1
        have hD : va_D A ws_350 := hD1.weaken (fun _ _ _ h => hFc _ h)
        have kf_355 := hw9
        clear hP1 hD1 hz9 hk9 hvm9 ht9 hw9
        generalize H1 = H at hP hS ⊢
        have aa_356 := a_r3_344
        have aa_357 := a_r4_344
        have aa_358 := a_r10_344
        have aa_359 := a_r11_344
        have aa_360 := a_r12_344
        have aa_361 := a_r13_344
        have aa_362 := a_r16_344
        have aa_363 := a_r17_344
        have aa_364 := a_r0_345
        have o_h0 := E_351.1 _ _ o_h0
        have tq_365 : wcP ws_350 h0 0 ((wb + 1) + 1) wc := wcP_1 hDW hG Fr_352 (by decide) (by decide) (by decide) (by decide) hkW rfl (fun k9 ci9 fs9 h9 c9 e9 => by have w9 := kf_355 _ _ _ h9 c9 e9; omega) tq_343
        refine lv_goto (tgt := 121) hx hb dX11_putInt_48 (by decide) ?_
        refine W_led (fun hLd => ?_)
        have hcl : 0 + dc_331 + dc_353 + PC ws_350 ≤ PC ws + (0) := (by omega)
        have hsl : 0 + ds_332 + ds_354 + PS ws_350 ≤ PS ws + (0) := (by omega)
        refine W.widen (k := PC ws + (0)) (n := PS ws + (0)) (by omega) (by omega) ?_
        have tq_366 : wcP ws_350 h0 0 (wb + 3) (wc + 0) := wcP_le (by omega) (by omega) (by omega) tq_365
        exact W.vret hx hb hr (fun t9 ht9 hW9 => ⟨⟨ws_350, rfl, ⟨trivial, tq_366⟩, ⟨(E_329.tr E_351), (gF.tr (gF.mo (F' := [(0, 0), (0, 1)]) (C' := [(0, 0), (6, 0)]) (S' := none) Fr_330 (fun _ h => h) (fun _ h => h) (Or.inl rfl)) (gF.mo (F' := [(0, 0), (0, 1)]) (C' := [(0, 0), (6, 0)]) (S' := none) Fr_352 (fun _ h => h) (fun _ h => h) (Or.inl rfl))), hG, by rw [ht9]; exact hP, hD, _, _, by rw [ht9]; exact hLd, hcl, hsl⟩⟩, hS.F ht9⟩) hS.2.2 dX11_putInt_121
    · refine lv_aload_n hx hb dX11_putInt_10 rfl (lv_at hl 0 rfl) ?_
      obtain ⟨k_367, fs9, hk_367⟩ := gC_of o_h0
      obtain ⟨r0_367, r1_367, r2_367, r3_367, n3_367, r4_367, n4_367, c5_367, c6_367, v7_367, c8_367, c9_367, r10_367, n10_367, r11_367, n11_367, r12_367, n12_367, r13_367, n13_367, r14_367, v15_367, r16_367, n16_367, r17_367, n17_367, rfl, o_r0_367, o_r1_367, o_r2_367, a_r3_367, f4_367, a_r4_367, f6_367, hz_c6_367, o_v7_367, a_r10_367, f10_367, a_r11_367, f12_367, a_r12_367, f14_367, a_r13_367, f16_367, o_r14_367, o_v15_367, a_r16_367, f20_367, a_r17_367, f22_367, f23_367, f24_367, f25_367, f26_367, f27_367, f28_367, -⟩ := (hG.1 _ _ _ _ hk_367).hX11 rfl
      refine va_get (D := gD g) (ci := 10) (v := .ref r1_367) (C := RX11) (T := TX11) (N := 18) hx hb hts inX11 hown hK hP k_367 hk_367 rfl 1 (by decide) (hts _ kw_94) (fun _ h9 => h9) rfl dX11_putInt_11 ?_
      refine lv_iload_n hx hb dX11_putInt_14 rfl (lv_at hl 1 rfl) ?_
      refine lv_iconst (v := 3) hx hb dX11_putInt_15 (by decide) ?_
      refine lv_iadd hx hb dX11_putInt_16 ?_
      refine lv_topi (fun z_368 ez_368 => ?_)
      obtain ⟨k_369, fs9, hk_369⟩ := gC_of o_r1_367
      obtain ⟨r0_369, n0_369, c1_369, rfl, a_r0_369, f1_369, f2_369, f3_369, f4_369, f5_369, -⟩ := (hG.1 _ _ _ _ hk_369).hX0 rfl
      have wb_370 : c1_369.toInt ≤ wb := wcP_u1 hD hk_367 rfl hk_369 rfl tk0
      have hkW := hk_367
      have hDW := hD
      have hFc := gfree hD hS hA
      have pg_371 := ge_10_17 hD hk_367 rfl a_r17_367
      have pg_372 := ge_0_0 hD hk_369 rfl a_r0_369
      refine W_led (fun hL0 => ?_)
      refine va_callv (va_runV (As := [.int z_368]) (rest := []) ⟨hx, hb, hml, hown, hts⟩ (m_X0_put l g s.heap ws r1_367 (z_368) (c1_369) hG o_r1_367 (gP_of hD hk_369 (fun q90 e90 => by cases e90; exact (by have q_f2_369 := f2_369; have q_f3_369 := f3_369; have q_wb_370 := wb_370; have q_pwc := pwc; have q_f1_369 := f1_369; have q_f4_369 := f4_369; have q_f5_369 := f5_369; have g_c1_369 := i_rg c1_369; omega))) (gP_of hD hk_369 (fun q90 e90 => by cases e90; exact (by have q_f2_369 := f2_369; have q_f3_369 := f3_369; have q_wb_370 := wb_370; have q_pwc := pwc; have q_f1_369 := f1_369; have q_f4_369 := f4_369; have q_f5_369 := f5_369; have g_c1_369 := i_rg c1_369; omega)))) (cwV 1 hts (gd_V kw_140 kw_13 kw_14 kw_3 kw_12) rfl rfl rfl (by decide +kernel) ⟨Nat.le_of_ble_eq_true rfl, Nat.le_of_ble_eq_true rfl⟩) ⟨gblindH, va_recv hK hP (ci := 0) (q0 := k_369) rfl hk_369, fun U hU hW9 => gmkH hU hW9 hP hK hD hex hE hS hFc⟩ rfl rfl hl.1 rfl (lv_room (Nat.le_of_ble_eq_true rfl)) dX11_putInt_17 ⟨(show 0 + (PC ws + (0)) ≤ PC ws + (0) from (by have e0 : (0 : Int32).toInt = 0 := (by decide); omega)), (show 0 + (PS ws + (0)) ≤ PS ws + (0) from (by have e0 : (0 : Int32).toInt = 0 := (by decide); omega))⟩) hS (fun q _ h => hFc q h) hFc (fun  ws_373 t9 H1 locs ht9 hvm9 hw9 hB9 hz9 hk9 hS => ?_)
      obtain ⟨E_374, Fr_375, hG, hP1, hD1, dc_376, ds_377, hLd, hdc_376, hds_377⟩ := hB9
      rw [ht9] at hLd
      refine W_tight (hL0.tr hLd).1 (hL0.tr hLd).2.1 ?_
      clear hL0 hLd
      have hP : va_P (gD g) cl0 ws_373 H1 := by rw [← ht9]; exact hP1
      have hD : va_D A ws_373 := hD1.weaken (fun _ _ _ h => hFc _ h)
      have kf_378 := hw9
      clear hP1 hD1 hz9 hk9 hvm9 ht9 hw9
      generalize H1 = H at hP hS ⊢
      have aa_379 := a_r3_367
      have aa_380 := a_r4_367
      have aa_381 := a_r10_367
      have aa_382 := a_r11_367
      have aa_383 := a_r12_367
      have aa_384 := a_r13_367
      have aa_385 := a_r16_367
      have aa_386 := a_r17_367
      have aa_387 := a_r0_369
      have o_h0 := E_374.1 _ _ o_h0
      have tq_388 : wcP ws_373 h0 0 (wb + 1) wc := wcP_1 hDW hG Fr_375 (by decide) (by decide) (by decide) (by decide) hkW rfl (fun k9 ci9 fs9 h9 c9 e9 => by have w9 := kf_378 _ _ _ h9 c9 e9; omega) tk0
      refine lv_goto (tgt := 121) hx hb dX11_putInt_20 (by decide) ?_
      refine W_led (fun hLd => ?_)
      have hcl : 0 + dc_376 + PC ws_373 ≤ PC ws + (0) := (by omega)
      have hsl : 0 + ds_377 + PS ws_373 ≤ PS ws + (0) := (by omega)
      refine W.widen (k := PC ws + (0)) (n := PS ws + (0)) (by omega) (by omega) ?_
      have tq_389 : wcP ws_373 h0 0 (wb + 3) (wc + 0) := wcP_le (by omega) (by omega) (by omega) tq_388
      exact W.vret hx hb hr (fun t9 ht9 hW9 => ⟨⟨ws_373, rfl, ⟨trivial, tq_389⟩, ⟨E_374, (gF.mo (F' := [(0, 0), (0, 1)]) (C' := [(0, 0), (6, 0)]) (S' := none) Fr_375 (fun _ h => h) (fun _ h => h) (Or.inl rfl)), hG, by rw [ht9]; exact hP, hD, _, _, by rw [ht9]; exact hLd, hcl, hsl⟩⟩, hS.F ht9⟩) hS.2.2 dX11_putInt_121
set_option maxHeartbeats 1000000 in
set_option maxRecDepth 100000 in
theorem m_X11_putLong (l : Launch) (g : Gm) (H0 : Heap) (ws : va_W) (h0 : Nat) (y1 : Int64) (x3 : Int32) (wb : Int) (wc : Int) (hG : Good g ws) (o_h0 : gC ws h0 10) (tk0 : wcP ws h0 0 wb wc) (pwc : wb + 3 ≤ 131072 ∧ wc + 0 ≤ 131072) : Met l yX11_putLong (wt yX11_putLong cX11_putLong 4 none) ({ frames := 4, cells := PC ws + (0), slots := PS ws + (0), locals := 104 }) (va_Pc [.ref h0, .long y1, .int x3] (st_H g H0 ws)) (va_Qv (fun (u9 : va_W) => (True) ∧ (wcP u9 h0 0 (wb + 3) (wc + 0))) (gQ2 g [(0, 0), (0, 1)] [(0, 0), (6, 0)] none (va_A ws H0.size) ws H0 (0) (0)) (va_A ws H0.size)) (PC ws + (0)) (PS ws + (0)) (va_A ws H0.size) := by
  refine Met.ofW (cc := cX11_putLong) (maxL := 4) (ret := none) (by decide) rfl ?_
  intro p e s m args below meth c s₁ B hml hv
  obtain ⟨rfl, hH0, hsz, hP, hK, hD0, hex, hE⟩ := hv
  have hx := B.exec
  have hb := B.bytes
  have hr := B.returns
  have hts0 := atoms_spec (ws := wt yX11_putLong cX11_putLong 4 none) B.pre
  have hts : ∀ w ∈ tb, w.before _ s = true := fun w h => hts0 w (List.mem_cons_of_mem _ h)
  have hown : s.vm.findClass RX11 = some m.cls := findClass_of_methodNamed B.named
  subst hH0
  have hD := hD0.self (sz := s.heap.size)
  generalize hAe : va_A ws s.heap.size = A at hD hE ⊢
  have hA : ∀ q : Nat, s.heap.size ≤ q → A q := fun q h => by rw [← hAe]; exact Or.inr h
  have hS : va_S A s.heap s.heap [] := va_S.rf
  have hl := lv_entry ([.ref h0, .long y1, .int x3]) (n := 4) (Nat.le_of_ble_eq_true rfl)
  rw [lg_entry_eq]
  generalize (lg_sl ([.ref h0, .long y1, .int x3]) ++ List.replicate (4 - (lg_sl ([.ref h0, .long y1, .int x3])).length) Slot.unset).toArray = ls at hl ⊢
  have hl : lv_has ls 4 [(0, .ref h0), (1, .long y1), (3, .int x3)] := hl
  refine lv_lload_n hx hb dX11_putLong_0 rfl (lv_at hl 1 rfl) ?_
  refine lv_lconst (v := 0) hx hb dX11_putLong_1 (by decide) ?_
  refine W.lcmp hx hb dX11_putLong_2 ?_
  refine lv_topi (fun z_1 ez_1 => ?_)
  refine lv_if_eq (tgt := 12) hx hb dX11_putLong_3 (by decide) (fun c_2 => ?_) (fun c_2 => ?_)
  · refine lv_aload_n hx hb dX11_putLong_12 rfl (lv_at hl 0 rfl) ?_
    obtain ⟨k_3, fs9, hk_3⟩ := gC_of o_h0
    obtain ⟨r0_3, r1_3, r2_3, r3_3, n3_3, r4_3, n4_3, c5_3, c6_3, v7_3, c8_3, c9_3, r10_3, n10_3, r11_3, n11_3, r12_3, n12_3, r13_3, n13_3, r14_3, v15_3, r16_3, n16_3, r17_3, n17_3, rfl, o_r0_3, o_r1_3, o_r2_3, a_r3_3, f4_3, a_r4_3, f6_3, hz_c6_3, o_v7_3, a_r10_3, f10_3, a_r11_3, f12_3, a_r12_3, f14_3, a_r13_3, f16_3, o_r14_3, o_v15_3, a_r16_3, f20_3, a_r17_3, f22_3, f23_3, f24_3, f25_3, f26_3, f27_3, f28_3, -⟩ := (hG.1 _ _ _ _ hk_3).hX11 rfl
    refine va_get (D := gD g) (ci := 10) (v := .ref r1_3) (C := RX11) (T := TX11) (N := 18) hx hb hts inX11 hown hK hP k_3 hk_3 rfl 1 (by decide) (hts _ kw_94) (fun _ h9 => h9) rfl dX11_putLong_13 ?_
    refine lv_bipush (v := 9) hx hb dX11_putLong_16 (by decide) ?_
    refine lv_lload_n hx hb dX11_putLong_18 rfl (lv_at hl 1 rfl) ?_
    obtain ⟨z_4, ez_4⟩ : ∃ y : Int32, (y1 : Int64).toInt32 = y := ⟨_, rfl⟩
    refine lv_l2i (v := z_4) hx hb dX11_putLong_19 ez_4 ?_
    refine lv_iadd hx hb dX11_putLong_20 ?_
    refine lv_topi (fun z_5 ez_5 => ?_)
    obtain ⟨k_6, fs9, hk_6⟩ := gC_of o_r1_3
    obtain ⟨r0_6, n0_6, c1_6, rfl, a_r0_6, f1_6, f2_6, f3_6, f4_6, f5_6, -⟩ := (hG.1 _ _ _ _ hk_6).hX0 rfl
    have wb_7 : c1_6.toInt ≤ wb := wcP_u1 hD hk_3 rfl hk_6 rfl tk0
    have hkW := hk_3
    have hDW := hD
    have hFc := gfree hD hS hA
    have pg_8 := ge_10_17 hD hk_3 rfl a_r17_3
    have pg_9 := ge_0_0 hD hk_6 rfl a_r0_6
    refine W_led (fun hL0 => ?_)
    refine va_callv (va_runV (As := [.int z_5]) (rest := []) ⟨hx, hb, hml, hown, hts⟩ (m_X0_put l g s.heap ws r1_3 (z_5) (c1_6) hG o_r1_3 (gP_of hD hk_6 (fun q90 e90 => by cases e90; exact (by have q_f2_6 := f2_6; have q_f3_6 := f3_6; have q_wb_7 := wb_7; have q_pwc := pwc; have q_f1_6 := f1_6; have q_f4_6 := f4_6; have q_f5_6 := f5_6; have g_c1_6 := i_rg c1_6; omega))) (gP_of hD hk_6 (fun q90 e90 => by cases e90; exact (by have q_f2_6 := f2_6; have q_f3_6 := f3_6; have q_wb_7 := wb_7; have q_pwc := pwc; have q_f1_6 := f1_6; have q_f4_6 := f4_6; have q_f5_6 := f5_6; have g_c1_6 := i_rg c1_6; omega)))) (cwV 1 hts (gd_V kw_140 kw_13 kw_14 kw_3 kw_12) rfl rfl rfl (by decide +kernel) ⟨Nat.le_of_ble_eq_true rfl, Nat.le_of_ble_eq_true rfl⟩) ⟨gblindH, va_recv hK hP (ci := 0) (q0 := k_6) rfl hk_6, fun U hU hW9 => gmkH hU hW9 hP hK hD hex hE hS hFc⟩ rfl rfl hl.1 rfl (lv_room (Nat.le_of_ble_eq_true rfl)) dX11_putLong_21 ⟨(show 0 + (PC ws + (0)) ≤ PC ws + (0) from (by have e0 : (0 : Int32).toInt = 0 := (by decide); omega)), (show 0 + (PS ws + (0)) ≤ PS ws + (0) from (by have e0 : (0 : Int32).toInt = 0 := (by decide); omega))⟩) hS (fun q _ h => hFc q h) hFc (fun  ws_10 t9 H1 locs ht9 hvm9 hw9 hB9 hz9 hk9 hS => ?_)
    obtain ⟨E_11, Fr_12, hG, hP1, hD1, dc_13, ds_14, hLd, hdc_13, hds_14⟩ := hB9
    rw [ht9] at hLd
    refine W_tight (hL0.tr hLd).1 (hL0.tr hLd).2.1 ?_
    clear hL0 hLd
    have hP : va_P (gD g) cl0 ws_10 H1 := by rw [← ht9]; exact hP1
    have hD : va_D A ws_10 := hD1.weaken (fun _ _ _ h => hFc _ h)
    have kf_15 := hw9
    clear hP1 hD1 hz9 hk9 hvm9 ht9 hw9
    generalize H1 = H at hP hS ⊢
    have aa_16 := a_r3_3
    have aa_17 := a_r4_3
    have aa_18 := a_r10_3
    have aa_19 := a_r11_3
    have aa_20 := a_r12_3
    have aa_21 := a_r13_3
    have aa_22 := a_r16_3
    have aa_23 := a_r17_3
    have aa_24 := a_r0_6
    have o_h0 := E_11.1 _ _ o_h0
    have tq_25 : wcP ws_10 h0 0 (wb + 1) wc := wcP_1 hDW hG Fr_12 (by decide) (by decide) (by decide) (by decide) hkW rfl (fun k9 ci9 fs9 h9 c9 e9 => by have w9 := kf_15 _ _ _ h9 c9 e9; omega) tk0
    refine lv_goto (tgt := 44) hx hb dX11_putLong_24 (by decide) ?_
    refine W_led (fun hLd => ?_)
    have hcl : 0 + dc_13 + PC ws_10 ≤ PC ws + (0) := (by omega)
    have hsl : 0 + ds_14 + PS ws_10 ≤ PS ws + (0) := (by omega)
    refine W.widen (k := PC ws + (0)) (n := PS ws + (0)) (by omega) (by omega) ?_
    have tq_26 : wcP ws_10 h0 0 (wb + 3) (wc + 0) := wcP_le (by omega) (by omega) (by omega) tq_25
    exact W.vret hx hb hr (fun t9 ht9 hW9 => ⟨⟨ws_10, rfl, ⟨trivial, tq_26⟩, ⟨E_11, (gF.mo (F' := [(0, 0), (0, 1)]) (C' := [(0, 0), (6, 0)]) (S' := none) Fr_12 (fun _ h => h) (fun _ h => h) (Or.inl rfl)), hG, by rw [ht9]; exact hP, hD, _, _, by rw [ht9]; exact hLd, hcl, hsl⟩⟩, hS.F ht9⟩) hS.2.2 dX11_putLong_44
  · refine lv_lload_n hx hb dX11_putLong_6 rfl (lv_at hl 1 rfl) ?_
    refine lv_lconst (v := 1) hx hb dX11_putLong_7 (by decide) ?_
    refine W.lcmp hx hb dX11_putLong_8 ?_
    refine lv_topi (fun z_27 ez_27 => ?_)
    refine lv_if_ne (tgt := 27) hx hb dX11_putLong_9 (by decide) (fun c_28 => ?_) (fun c_28 => ?_)
    · refine lv_aload_n hx hb dX11_putLong_27 rfl (lv_at hl 0 rfl) ?_
      obtain ⟨k_29, fs9, hk_29⟩ := gC_of o_h0
      obtain ⟨r0_29, r1_29, r2_29, r3_29, n3_29, r4_29, n4_29, c5_29, c6_29, v7_29, c8_29, c9_29, r10_29, n10_29, r11_29, n11_29, r12_29, n12_29, r13_29, n13_29, r14_29, v15_29, r16_29, n16_29, r17_29, n17_29, rfl, o_r0_29, o_r1_29, o_r2_29, a_r3_29, f4_29, a_r4_29, f6_29, hz_c6_29, o_v7_29, a_r10_29, f10_29, a_r11_29, f12_29, a_r12_29, f14_29, a_r13_29, f16_29, o_r14_29, o_v15_29, a_r16_29, f20_29, a_r17_29, f22_29, f23_29, f24_29, f25_29, f26_29, f27_29, f28_29, -⟩ := (hG.1 _ _ _ _ hk_29).hX11 rfl
      refine va_get (D := gD g) (ci := 10) (v := .ref r1_29) (C := RX11) (T := TX11) (N := 18) hx hb hts inX11 hown hK hP k_29 hk_29 rfl 1 (by decide) (hts _ kw_94) (fun _ h9 => h9) rfl dX11_putLong_28 ?_
      refine lv_bipush (v := 20) hx hb dX11_putLong_31 (by decide) ?_
      obtain ⟨k_30, fs9, hk_30⟩ := gC_of o_r1_29
      obtain ⟨r0_30, n0_30, c1_30, rfl, a_r0_30, f1_30, f2_30, f3_30, f4_30, f5_30, -⟩ := (hG.1 _ _ _ _ hk_30).hX0 rfl
      have wb_31 : c1_30.toInt ≤ wb := wcP_u1 hD hk_29 rfl hk_30 rfl tk0
      have hkW := hk_29
      have hDW := hD
      have hFc := gfree hD hS hA
      have pg_32 := ge_10_17 hD hk_29 rfl a_r17_29
      have pg_33 := ge_0_0 hD hk_30 rfl a_r0_30
      refine W_led (fun hL0 => ?_)
      refine va_callv (va_runV (As := [.int 20]) (rest := []) ⟨hx, hb, hml, hown, hts⟩ (m_X0_put l g s.heap ws r1_29 (20) (c1_30) hG o_r1_29 (gP_of hD hk_30 (fun q90 e90 => by cases e90; exact (by have q_f2_30 := f2_30; have q_f3_30 := f3_30; have q_wb_31 := wb_31; have q_pwc := pwc; have q_f1_30 := f1_30; have q_f4_30 := f4_30; have q_f5_30 := f5_30; have g_c1_30 := i_rg c1_30; omega))) (gP_of hD hk_30 (fun q90 e90 => by cases e90; exact (by have q_f2_30 := f2_30; have q_f3_30 := f3_30; have q_wb_31 := wb_31; have q_pwc := pwc; have q_f1_30 := f1_30; have q_f4_30 := f4_30; have q_f5_30 := f5_30; have g_c1_30 := i_rg c1_30; omega)))) (cwV 1 hts (gd_V kw_140 kw_13 kw_14 kw_3 kw_12) rfl rfl rfl (by decide +kernel) ⟨Nat.le_of_ble_eq_true rfl, Nat.le_of_ble_eq_true rfl⟩) ⟨gblindH, va_recv hK hP (ci := 0) (q0 := k_30) rfl hk_30, fun U hU hW9 => gmkH hU hW9 hP hK hD hex hE hS hFc⟩ rfl rfl hl.1 rfl (lv_room (Nat.le_of_ble_eq_true rfl)) dX11_putLong_33 ⟨(show 0 + (PC ws + (0)) ≤ PC ws + (0) from (by have e0 : (0 : Int32).toInt = 0 := (by decide); omega)), (show 0 + (PS ws + (0)) ≤ PS ws + (0) from (by have e0 : (0 : Int32).toInt = 0 := (by decide); omega))⟩) hS (fun q _ h => hFc q h) hFc (fun  ws_34 t9 H1 locs ht9 hvm9 hw9 hB9 hz9 hk9 hS => ?_)
      obtain ⟨E_35, Fr_36, hG, hP1, hD1, dc_37, ds_38, hLd, hdc_37, hds_38⟩ := hB9
      rw [ht9] at hLd
      refine W_tight (hL0.tr hLd).1 (hL0.tr hLd).2.1 ?_
      clear hL0 hLd
      have hP : va_P (gD g) cl0 ws_34 H1 := by rw [← ht9]; exact hP1
      have hD : va_D A ws_34 := hD1.weaken (fun _ _ _ h => hFc _ h)
      have kf_39 := hw9
      clear hP1 hD1 hz9 hk9 hvm9 ht9 hw9
      generalize H1 = H at hP hS ⊢
      have aa_40 := a_r3_29
      have aa_41 := a_r4_29
      have aa_42 := a_r10_29
      have aa_43 := a_r11_29
      have aa_44 := a_r12_29
      have aa_45 := a_r13_29
      have aa_46 := a_r16_29
      have aa_47 := a_r17_29
      have aa_48 := a_r0_30
      have o_h0 := E_35.1 _ _ o_h0
      have tq_49 : wcP ws_34 h0 0 (wb + 1) wc := wcP_1 hDW hG Fr_36 (by decide) (by decide) (by decide) (by decide) hkW rfl (fun k9 ci9 fs9 h9 c9 e9 => by have w9 := kf_39 _ _ _ h9 c9 e9; omega) tk0
      refine lv_aload_n hx hb dX11_putLong_36 rfl (lv_at hl 0 rfl) ?_
      obtain ⟨fs9, hk_50, hq_50⟩ := ((gF.a (F' := [(0, 0), (0, 1)]) Fr_36 (fun _ h => h))) _ _ _ hk_29
      obtain ⟨r0_50, r1_50, r2_50, r3_50, n3_50, r4_50, n4_50, c5_50, c6_50, v7_50, c8_50, c9_50, r10_50, n10_50, r11_50, n11_50, r12_50, n12_50, r13_50, n13_50, r14_50, v15_50, r16_50, n16_50, r17_50, n17_50, rfl, o_r0_50, o_r1_50, o_r2_50, a_r3_50, f4_50, a_r4_50, f6_50, hz_c6_50, o_v7_50, a_r10_50, f10_50, a_r11_50, f12_50, a_r12_50, f14_50, a_r13_50, f16_50, o_r14_50, o_v15_50, a_r16_50, f20_50, a_r17_50, f22_50, f23_50, f24_50, f25_50, f26_50, f27_50, f28_50, -⟩ := (hG.1 _ _ _ _ hk_50).hX11 rfl
      obtain rfl := fe_r (hq_50 1 (by decide))
      have o_r1_29 := o_r1_50
      obtain rfl := fe_q (hq_50 7 (by decide))
      have o_v7_29 := o_v7_50
      obtain rfl := fe_q (hq_50 15 (by decide))
      have o_v15_29 := o_v15_50
      refine va_get (D := gD g) (ci := 10) (v := .ref r1_29) (C := RX11) (T := TX11) (N := 18) hx hb hts inX11 hown hK hP k_29 hk_50 rfl 1 (by decide) (hts _ kw_94) (fun _ h9 => h9) rfl dX11_putLong_37 ?_
      refine lv_iload_n hx hb dX11_putLong_40 rfl (lv_at hl 2 rfl) ?_
      obtain ⟨fs9, hk_51, hq_51⟩ := ((gF.a (F' := [(0, 0), (0, 1)]) Fr_36 (fun _ h => h))) _ _ _ hk_30
      obtain ⟨r0_51, n0_51, c1_51, rfl, a_r0_51, f1_51, f2_51, f3_51, f4_51, f5_51, -⟩ := (hG.1 _ _ _ _ hk_51).hX0 rfl
      have kq_52 := kf_39 _ _ _ hk_51 _ rfl
      have wb_53 : c1_51.toInt ≤ (wb + 1) := wcP_u1 hD hk_50 rfl hk_51 rfl tq_49
      have hkW := hk_50
      have hDW := hD
      have hFc := gfree hD hS hA
      have pg_54 := ge_10_17 hD hk_50 rfl a_r17_50
      have pg_55 := ge_0_0 hD hk_51 rfl a_r0_51
      refine W_led (fun hL0 => ?_)
      refine va_callv (va_runV (As := [.int x3]) (rest := []) ⟨hx, hb, hml, hown, hts⟩ (m_X0_put2 l g H ws_34 r1_29 (x3) (c1_51) hG o_r1_29 (gP_of hD hk_51 (fun q90 e90 => by cases e90; exact (by have q_f2_51 := f2_51; have q_f3_51 := f3_51; have q_kq_52 := kq_52; have q_wb_53 := wb_53; have q_pwc := pwc; have q_f2_30 := f2_30; have q_f3_30 := f3_30; have q_wb_31 := wb_31; have q_f1_51 := f1_51; have q_f4_51 := f4_51; have q_f5_51 := f5_51; have q_f1_30 := f1_30; have q_f4_30 := f4_30; have q_f5_30 := f5_30; have g_c1_30 := i_rg c1_30; have g_c1_51 := i_rg c1_51; omega))) (gP_of hD hk_51 (fun q90 e90 => by cases e90; exact (by have q_f2_51 := f2_51; have q_f3_51 := f3_51; have q_kq_52 := kq_52; have q_wb_53 := wb_53; have q_pwc := pwc; have q_f2_30 := f2_30; have q_f3_30 := f3_30; have q_wb_31 := wb_31; have q_f1_51 := f1_51; have q_f4_51 := f4_51; have q_f5_51 := f5_51; have q_f1_30 := f1_30; have q_f4_30 := f4_30; have q_f5_30 := f5_30; have g_c1_30 := i_rg c1_30; have g_c1_51 := i_rg c1_51; omega)))) (cwV 1 hts (gd_V kw_96 kw_17 kw_18 kw_3 kw_16) rfl rfl rfl (by decide +kernel) ⟨Nat.le_of_ble_eq_true rfl, Nat.le_of_ble_eq_true rfl⟩) ⟨gblindH, va_recv hK hP (ci := 0) (q0 := k_30) rfl hk_51, fun U hU hW9 => gmkH hU hW9 hP hK hD hex hE hS hFc⟩ rfl rfl hl.1 rfl (lv_room (Nat.le_of_ble_eq_true rfl)) dX11_putLong_41 ⟨(show 0 + dc_37 + (PC ws_34 + (0)) ≤ PC ws + (0) from (by have e0 : (0 : Int32).toInt = 0 := (by decide); omega)), (show 0 + ds_38 + (PS ws_34 + (0)) ≤ PS ws + (0) from (by have e0 : (0 : Int32).toInt = 0 := (by decide); omega))⟩) hS (fun q _ h => hFc q h) hFc (fun  ws_56 t9 H1 locs ht9 hvm9 hw9 hB9 hz9 hk9 hS => ?_)
      obtain ⟨E_57, Fr_58, hG, hP1, hD1, dc_59, ds_60, hLd, hdc_59, hds_60⟩ := hB9
      rw [ht9] at hLd
      refine W_tight (hL0.tr hLd).1 (hL0.tr hLd).2.1 ?_
      clear hL0 hLd
      have hP : va_P (gD g) cl0 ws_56 H1 := by rw [← ht9]; exact hP1
      have hD : va_D A ws_56 := hD1.weaken (fun _ _ _ h => hFc _ h)
      have kf_61 := hw9
      clear hP1 hD1 hz9 hk9 hvm9 ht9 hw9
      generalize H1 = H at hP hS ⊢
      have aa_62 := a_r3_50
      have aa_63 := a_r4_50
      have aa_64 := a_r10_50
      have aa_65 := a_r11_50
      have aa_66 := a_r12_50
      have aa_67 := a_r13_50
      have aa_68 := a_r16_50
      have aa_69 := a_r17_50
      have aa_70 := a_r0_51
      have o_h0 := E_57.1 _ _ o_h0
      have tq_71 : wcP ws_56 h0 0 ((wb + 1) + 2) wc := wcP_1 hDW hG Fr_58 (by decide) (by decide) (by decide) (by decide) hkW rfl (fun k9 ci9 fs9 h9 c9 e9 => by have w9 := kf_61 _ _ _ h9 c9 e9; omega) tq_49
      refine W_led (fun hLd => ?_)
      have hcl : 0 + dc_37 + dc_59 + PC ws_56 ≤ PC ws + (0) := (by omega)
      have hsl : 0 + ds_38 + ds_60 + PS ws_56 ≤ PS ws + (0) := (by omega)
      refine W.widen (k := PC ws + (0)) (n := PS ws + (0)) (by omega) (by omega) ?_
      have tq_72 : wcP ws_56 h0 0 (wb + 3) (wc + 0) := wcP_le (by omega) (by omega) (by omega) tq_71
      exact W.vret hx hb hr (fun t9 ht9 hW9 => ⟨⟨ws_56, rfl, ⟨trivial, tq_72⟩, ⟨(E_35.tr E_57), (gF.tr (gF.mo (F' := [(0, 0), (0, 1)]) (C' := [(0, 0), (6, 0)]) (S' := none) Fr_36 (fun _ h => h) (fun _ h => h) (Or.inl rfl)) (gF.mo (F' := [(0, 0), (0, 1)]) (C' := [(0, 0), (6, 0)]) (S' := none) Fr_58 (fun _ h => h) (fun _ h => h) (Or.inl rfl))), hG, by rw [ht9]; exact hP, hD, _, _, by rw [ht9]; exact hLd, hcl, hsl⟩⟩, hS.F ht9⟩) hS.2.2 dX11_putLong_44
    · refine lv_aload_n hx hb dX11_putLong_12 rfl (lv_at hl 0 rfl) ?_
      obtain ⟨k_73, fs9, hk_73⟩ := gC_of o_h0
      obtain ⟨r0_73, r1_73, r2_73, r3_73, n3_73, r4_73, n4_73, c5_73, c6_73, v7_73, c8_73, c9_73, r10_73, n10_73, r11_73, n11_73, r12_73, n12_73, r13_73, n13_73, r14_73, v15_73, r16_73, n16_73, r17_73, n17_73, rfl, o_r0_73, o_r1_73, o_r2_73, a_r3_73, f4_73, a_r4_73, f6_73, hz_c6_73, o_v7_73, a_r10_73, f10_73, a_r11_73, f12_73, a_r12_73, f14_73, a_r13_73, f16_73, o_r14_73, o_v15_73, a_r16_73, f20_73, a_r17_73, f22_73, f23_73, f24_73, f25_73, f26_73, f27_73, f28_73, -⟩ := (hG.1 _ _ _ _ hk_73).hX11 rfl
      refine va_get (D := gD g) (ci := 10) (v := .ref r1_73) (C := RX11) (T := TX11) (N := 18) hx hb hts inX11 hown hK hP k_73 hk_73 rfl 1 (by decide) (hts _ kw_94) (fun _ h9 => h9) rfl dX11_putLong_13 ?_
      refine lv_bipush (v := 9) hx hb dX11_putLong_16 (by decide) ?_
      refine lv_lload_n hx hb dX11_putLong_18 rfl (lv_at hl 1 rfl) ?_
      obtain ⟨z_74, ez_74⟩ : ∃ y : Int32, (y1 : Int64).toInt32 = y := ⟨_, rfl⟩
      refine lv_l2i (v := z_74) hx hb dX11_putLong_19 ez_74 ?_
      refine lv_iadd hx hb dX11_putLong_20 ?_
      refine lv_topi (fun z_75 ez_75 => ?_)
      obtain ⟨k_76, fs9, hk_76⟩ := gC_of o_r1_73
      obtain ⟨r0_76, n0_76, c1_76, rfl, a_r0_76, f1_76, f2_76, f3_76, f4_76, f5_76, -⟩ := (hG.1 _ _ _ _ hk_76).hX0 rfl
      have wb_77 : c1_76.toInt ≤ wb := wcP_u1 hD hk_73 rfl hk_76 rfl tk0
      have hkW := hk_73
      have hDW := hD
      have hFc := gfree hD hS hA
      have pg_78 := ge_10_17 hD hk_73 rfl a_r17_73
      have pg_79 := ge_0_0 hD hk_76 rfl a_r0_76
      refine W_led (fun hL0 => ?_)
      refine va_callv (va_runV (As := [.int z_75]) (rest := []) ⟨hx, hb, hml, hown, hts⟩ (m_X0_put l g s.heap ws r1_73 (z_75) (c1_76) hG o_r1_73 (gP_of hD hk_76 (fun q90 e90 => by cases e90; exact (by have q_f2_76 := f2_76; have q_f3_76 := f3_76; have q_wb_77 := wb_77; have q_pwc := pwc; have q_f1_76 := f1_76; have q_f4_76 := f4_76; have q_f5_76 := f5_76; have g_c1_76 := i_rg c1_76; omega))) (gP_of hD hk_76 (fun q90 e90 => by cases e90; exact (by have q_f2_76 := f2_76; have q_f3_76 := f3_76; have q_wb_77 := wb_77; have q_pwc := pwc; have q_f1_76 := f1_76; have q_f4_76 := f4_76; have q_f5_76 := f5_76; have g_c1_76 := i_rg c1_76; omega)))) (cwV 1 hts (gd_V kw_140 kw_13 kw_14 kw_3 kw_12) rfl rfl rfl (by decide +kernel) ⟨Nat.le_of_ble_eq_true rfl, Nat.le_of_ble_eq_true rfl⟩) ⟨gblindH, va_recv hK hP (ci := 0) (q0 := k_76) rfl hk_76, fun U hU hW9 => gmkH hU hW9 hP hK hD hex hE hS hFc⟩ rfl rfl hl.1 rfl (lv_room (Nat.le_of_ble_eq_true rfl)) dX11_putLong_21 ⟨(show 0 + (PC ws + (0)) ≤ PC ws + (0) from (by have e0 : (0 : Int32).toInt = 0 := (by decide); omega)), (show 0 + (PS ws + (0)) ≤ PS ws + (0) from (by have e0 : (0 : Int32).toInt = 0 := (by decide); omega))⟩) hS (fun q _ h => hFc q h) hFc (fun  ws_80 t9 H1 locs ht9 hvm9 hw9 hB9 hz9 hk9 hS => ?_)
      obtain ⟨E_81, Fr_82, hG, hP1, hD1, dc_83, ds_84, hLd, hdc_83, hds_84⟩ := hB9
      rw [ht9] at hLd
      refine W_tight (hL0.tr hLd).1 (hL0.tr hLd).2.1 ?_
      clear hL0 hLd
      have hP : va_P (gD g) cl0 ws_80 H1 := by rw [← ht9]; exact hP1
      have hD : va_D A ws_80 := hD1.weaken (fun _ _ _ h => hFc _ h)
      have kf_85 := hw9
      clear hP1 hD1 hz9 hk9 hvm9 ht9 hw9
      generalize H1 = H at hP hS ⊢
      have aa_86 := a_r3_73
      have aa_87 := a_r4_73
      have aa_88 := a_r10_73
      have aa_89 := a_r11_73
      have aa_90 := a_r12_73
      have aa_91 := a_r13_73
      have aa_92 := a_r16_73
      have aa_93 := a_r17_73
      have aa_94 := a_r0_76
      have o_h0 := E_81.1 _ _ o_h0
      have tq_95 : wcP ws_80 h0 0 (wb + 1) wc := wcP_1 hDW hG Fr_82 (by decide) (by decide) (by decide) (by decide) hkW rfl (fun k9 ci9 fs9 h9 c9 e9 => by have w9 := kf_85 _ _ _ h9 c9 e9; omega) tk0
      refine lv_goto (tgt := 44) hx hb dX11_putLong_24 (by decide) ?_
      refine W_led (fun hLd => ?_)
      have hcl : 0 + dc_83 + PC ws_80 ≤ PC ws + (0) := (by omega)
      have hsl : 0 + ds_84 + PS ws_80 ≤ PS ws + (0) := (by omega)
      refine W.widen (k := PC ws + (0)) (n := PS ws + (0)) (by omega) (by omega) ?_
      have tq_96 : wcP ws_80 h0 0 (wb + 3) (wc + 0) := wcP_le (by omega) (by omega) (by omega) tq_95
      exact W.vret hx hb hr (fun t9 ht9 hW9 => ⟨⟨ws_80, rfl, ⟨trivial, tq_96⟩, ⟨E_81, (gF.mo (F' := [(0, 0), (0, 1)]) (C' := [(0, 0), (6, 0)]) (S' := none) Fr_82 (fun _ h => h) (fun _ h => h) (Or.inl rfl)), hG, by rw [ht9]; exact hP, hD, _, _, by rw [ht9]; exact hLd, hcl, hsl⟩⟩, hS.F ht9⟩) hS.2.2 dX11_putLong_44
set_option maxHeartbeats 1000000 in
set_option maxRecDepth 100000 in
theorem m_X11_putGrow (l : Launch) (g : Gm) (H0 : Heap) (ws : va_W) (h0 : Nat) (x1 : Int32) (x2 : Int32) (wb : Int) (wc : Int) (hG : Good g ws) (o_h0 : gC ws h0 10) (tk0 : wcP ws h0 0 wb wc) (pwc : wb + 6 ≤ 131072 ∧ wc + 0 ≤ 131072) : Met l yX11_putGrow (wt yX11_putGrow cX11_putGrow 3 none) ({ frames := 4, cells := PC ws + (0), slots := PS ws + (0), locals := 104 }) (va_Pc [.ref h0, .int x1, .int x2] (st_H g H0 ws)) (va_Qv (fun (u9 : va_W) => (True) ∧ (wcP u9 h0 0 (wb + 6) (wc + 0))) (gQ2 g [(0, 0), (0, 1)] [(0, 0), (6, 0)] none (va_A ws H0.size) ws H0 (0) (0)) (va_A ws H0.size)) (PC ws + (0)) (PS ws + (0)) (va_A ws H0.size) := by
  refine Met.ofW (cc := cX11_putGrow) (maxL := 3) (ret := none) (by decide) rfl ?_
  intro p e s m args below meth c s₁ B hml hv
  obtain ⟨rfl, hH0, hsz, hP, hK, hD0, hex, hE⟩ := hv
  have hx := B.exec
  have hb := B.bytes
  have hr := B.returns
  have hts0 := atoms_spec (ws := wt yX11_putGrow cX11_putGrow 3 none) B.pre
  have hts : ∀ w ∈ tb, w.before _ s = true := fun w h => hts0 w (List.mem_cons_of_mem _ h)
  have hown : s.vm.findClass RX11 = some m.cls := findClass_of_methodNamed B.named
  subst hH0
  have hD := hD0.self (sz := s.heap.size)
  generalize hAe : va_A ws s.heap.size = A at hD hE ⊢
  have hA : ∀ q : Nat, s.heap.size ≤ q → A q := fun q h => by rw [← hAe]; exact Or.inr h
  have hS : va_S A s.heap s.heap [] := va_S.rf
  have hl := lv_entry ([.ref h0, .int x1, .int x2]) (n := 3) (Nat.le_of_ble_eq_true rfl)
  rw [lg_entry_eq]
  generalize (lg_sl ([.ref h0, .int x1, .int x2]) ++ List.replicate (3 - (lg_sl ([.ref h0, .int x1, .int x2])).length) Slot.unset).toArray = ls at hl ⊢
  have hl : lv_has ls 3 [(0, .ref h0), (1, .int x1), (2, .int x2)] := hl
  refine lv_iload_n hx hb dX11_putGrow_0 rfl (lv_at hl 2 rfl) ?_
  obtain ⟨z_1, ez_1⟩ : ∃ y : Int64, (x2 : Int32).toInt64 = y := ⟨_, rfl⟩
  refine lv_i2l (v := z_1) hx hb dX11_putGrow_1 ez_1 ?_
  have hFc := gfree hD hS hA
  refine va_calli (va_runS (As := [.long z_1]) (rest := []) ⟨hx, hb, hml, hown, hts⟩ (m_X11_isByte l g s.heap.size ws (z_1) hG ) (va_cwS 1 hts (gd_S kw_204 kw_174 kw_83 kw_173) rfl rfl rfl (by decide +kernel) ⟨Nat.le_of_ble_eq_true rfl, Nat.le_of_ble_eq_true rfl⟩) ⟨gblind, fun U hU hW9 => gmk hU hW9 hP hK hD hex hE hS hFc⟩ rfl rfl hl.1 rfl (lv_room (Nat.le_of_ble_eq_true rfl)) dX11_putGrow_2 ⟨(show 0 + 0 ≤ PC ws + (0) from (by have e0 : (0 : Int32).toInt = 0 := (by decide); omega)), (show 0 + 0 ≤ PS ws + (0) from (by have e0 : (0 : Int32).toInt = 0 := (by decide); omega))⟩) hS (fun q _ h => hFc q h) hFc (fun r_2 u9 t9 H1 locs ht9 hvm9 hw9 hB9 hz9 hk9 hS => ?_)
  have hP : va_P (gD g) cl0 ws H1 := by rw [← ht9]; exact hB9.1
  have hz_r_2 : r_2 = 0 ∨ r_2 = 1 := hw9
  clear hB9 hz9 hk9 hvm9 ht9 hw9
  generalize H1 = H at hP hS ⊢
  refine lv_if_eq (tgt := 37) hx hb dX11_putGrow_5 (by decide) (fun c_3 => ?_) (fun c_3 => ?_)
  · refine lv_aload_n hx hb dX11_putGrow_37 rfl (lv_at hl 0 rfl) ?_
    obtain ⟨k_4, fs9, hk_4⟩ := gC_of o_h0
    obtain ⟨r0_4, r1_4, r2_4, r3_4, n3_4, r4_4, n4_4, c5_4, c6_4, v7_4, c8_4, c9_4, r10_4, n10_4, r11_4, n11_4, r12_4, n12_4, r13_4, n13_4, r14_4, v15_4, r16_4, n16_4, r17_4, n17_4, rfl, o_r0_4, o_r1_4, o_r2_4, a_r3_4, f4_4, a_r4_4, f6_4, hz_c6_4, o_v7_4, a_r10_4, f10_4, a_r11_4, f12_4, a_r12_4, f14_4, a_r13_4, f16_4, o_r14_4, o_v15_4, a_r16_4, f20_4, a_r17_4, f22_4, f23_4, f24_4, f25_4, f26_4, f27_4, f28_4, -⟩ := (hG.1 _ _ _ _ hk_4).hX11 rfl
    refine va_get (D := gD g) (ci := 10) (v := .ref r1_4) (C := RX11) (T := TX11) (N := 18) hx hb hts inX11 hown hK hP k_4 hk_4 rfl 1 (by decide) (hts _ kw_94) (fun _ h9 => h9) rfl dX11_putGrow_38 ?_
    refine lv_sipush (v := 196) hx hb dX11_putGrow_41 (by decide) ?_
    obtain ⟨k_5, fs9, hk_5⟩ := gC_of o_r1_4
    obtain ⟨r0_5, n0_5, c1_5, rfl, a_r0_5, f1_5, f2_5, f3_5, f4_5, f5_5, -⟩ := (hG.1 _ _ _ _ hk_5).hX0 rfl
    have wb_6 : c1_5.toInt ≤ wb := wcP_u1 hD hk_4 rfl hk_5 rfl tk0
    have hkW := hk_4
    have hDW := hD
    have hFc := gfree hD hS hA
    have pg_7 := ge_10_17 hD hk_4 rfl a_r17_4
    have pg_8 := ge_0_0 hD hk_5 rfl a_r0_5
    refine W_led (fun hL0 => ?_)
    refine va_callv (va_runV (As := [.int 196]) (rest := []) ⟨hx, hb, hml, hown, hts⟩ (m_X0_put l g H ws r1_4 (196) (c1_5) hG o_r1_4 (gP_of hD hk_5 (fun q90 e90 => by cases e90; exact (by have q_f2_5 := f2_5; have q_f3_5 := f3_5; have q_wb_6 := wb_6; have q_pwc := pwc; have q_f1_5 := f1_5; have q_f4_5 := f4_5; have q_f5_5 := f5_5; have g_c1_5 := i_rg c1_5; omega))) (gP_of hD hk_5 (fun q90 e90 => by cases e90; exact (by have q_f2_5 := f2_5; have q_f3_5 := f3_5; have q_wb_6 := wb_6; have q_pwc := pwc; have q_f1_5 := f1_5; have q_f4_5 := f4_5; have q_f5_5 := f5_5; have g_c1_5 := i_rg c1_5; omega)))) (cwV 1 hts (gd_V kw_140 kw_13 kw_14 kw_3 kw_12) rfl rfl rfl (by decide +kernel) ⟨Nat.le_of_ble_eq_true rfl, Nat.le_of_ble_eq_true rfl⟩) ⟨gblindH, va_recv hK hP (ci := 0) (q0 := k_5) rfl hk_5, fun U hU hW9 => gmkH hU hW9 hP hK hD hex hE hS hFc⟩ rfl rfl hl.1 rfl (lv_room (Nat.le_of_ble_eq_true rfl)) dX11_putGrow_44 ⟨(show 0 + (PC ws + (0)) ≤ PC ws + (0) from (by have e0 : (0 : Int32).toInt = 0 := (by decide); omega)), (show 0 + (PS ws + (0)) ≤ PS ws + (0) from (by have e0 : (0 : Int32).toInt = 0 := (by decide); omega))⟩) hS (fun q _ h => hFc q h) hFc (fun  ws_9 t9 H1 locs ht9 hvm9 hw9 hB9 hz9 hk9 hS => ?_)
    obtain ⟨E_10, Fr_11, hG, hP1, hD1, dc_12, ds_13, hLd, hdc_12, hds_13⟩ := hB9
    rw [ht9] at hLd
    refine W_tight (hL0.tr hLd).1 (hL0.tr hLd).2.1 ?_
    clear hL0 hLd
    have hP : va_P (gD g) cl0 ws_9 H1 := by rw [← ht9]; exact hP1
    have hD : va_D A ws_9 := hD1.weaken (fun _ _ _ h => hFc _ h)
    have kf_14 := hw9
    clear hP1 hD1 hz9 hk9 hvm9 ht9 hw9
    generalize H1 = H at hP hS ⊢
    have aa_15 := a_r3_4
    have aa_16 := a_r4_4
    have aa_17 := a_r10_4
    have aa_18 := a_r11_4
    have aa_19 := a_r12_4
    have aa_20 := a_r13_4
    have aa_21 := a_r16_4
    have aa_22 := a_r17_4
    have aa_23 := a_r0_5
    have o_h0 := E_10.1 _ _ o_h0
    have tq_24 : wcP ws_9 h0 0 (wb + 1) wc := wcP_1 hDW hG Fr_11 (by decide) (by decide) (by decide) (by decide) hkW rfl (fun k9 ci9 fs9 h9 c9 e9 => by have w9 := kf_14 _ _ _ h9 c9 e9; omega) tk0
    refine lv_aload_n hx hb dX11_putGrow_47 rfl (lv_at hl 0 rfl) ?_
    obtain ⟨fs9, hk_25, hq_25⟩ := ((gF.a (F' := [(0, 0), (0, 1)]) Fr_11 (fun _ h => h))) _ _ _ hk_4
    obtain ⟨r0_25, r1_25, r2_25, r3_25, n3_25, r4_25, n4_25, c5_25, c6_25, v7_25, c8_25, c9_25, r10_25, n10_25, r11_25, n11_25, r12_25, n12_25, r13_25, n13_25, r14_25, v15_25, r16_25, n16_25, r17_25, n17_25, rfl, o_r0_25, o_r1_25, o_r2_25, a_r3_25, f4_25, a_r4_25, f6_25, hz_c6_25, o_v7_25, a_r10_25, f10_25, a_r11_25, f12_25, a_r12_25, f14_25, a_r13_25, f16_25, o_r14_25, o_v15_25, a_r16_25, f20_25, a_r17_25, f22_25, f23_25, f24_25, f25_25, f26_25, f27_25, f28_25, -⟩ := (hG.1 _ _ _ _ hk_25).hX11 rfl
    obtain rfl := fe_r (hq_25 1 (by decide))
    have o_r1_4 := o_r1_25
    obtain rfl := fe_q (hq_25 7 (by decide))
    have o_v7_4 := o_v7_25
    obtain rfl := fe_q (hq_25 15 (by decide))
    have o_v15_4 := o_v15_25
    refine va_get (D := gD g) (ci := 10) (v := .ref r1_4) (C := RX11) (T := TX11) (N := 18) hx hb hts inX11 hown hK hP k_4 hk_25 rfl 1 (by decide) (hts _ kw_94) (fun _ h9 => h9) rfl dX11_putGrow_48 ?_
    refine lv_sipush (v := 132) hx hb dX11_putGrow_51 (by decide) ?_
    obtain ⟨fs9, hk_26, hq_26⟩ := ((gF.a (F' := [(0, 0), (0, 1)]) Fr_11 (fun _ h => h))) _ _ _ hk_5
    obtain ⟨r0_26, n0_26, c1_26, rfl, a_r0_26, f1_26, f2_26, f3_26, f4_26, f5_26, -⟩ := (hG.1 _ _ _ _ hk_26).hX0 rfl
    have kq_27 := kf_14 _ _ _ hk_26 _ rfl
    have wb_28 : c1_26.toInt ≤ (wb + 1) := wcP_u1 hD hk_25 rfl hk_26 rfl tq_24
    have hkW := hk_25
    have hDW := hD
    have hFc := gfree hD hS hA
    have pg_29 := ge_10_17 hD hk_25 rfl a_r17_25
    have pg_30 := ge_0_0 hD hk_26 rfl a_r0_26
    refine W_led (fun hL0 => ?_)
    refine va_callv (va_runV (As := [.int 132]) (rest := []) ⟨hx, hb, hml, hown, hts⟩ (m_X0_put l g H ws_9 r1_4 (132) (c1_26) hG o_r1_4 (gP_of hD hk_26 (fun q90 e90 => by cases e90; exact (by have q_f2_26 := f2_26; have q_f3_26 := f3_26; have q_kq_27 := kq_27; have q_wb_28 := wb_28; have q_pwc := pwc; have q_f2_5 := f2_5; have q_f3_5 := f3_5; have q_wb_6 := wb_6; have q_f1_26 := f1_26; have q_f4_26 := f4_26; have q_f5_26 := f5_26; have q_f1_5 := f1_5; have q_f4_5 := f4_5; have q_f5_5 := f5_5; have g_c1_26 := i_rg c1_26; have g_c1_5 := i_rg c1_5; omega))) (gP_of hD hk_26 (fun q90 e90 => by cases e90; exact (by have q_f2_26 := f2_26; have q_f3_26 := f3_26; have q_kq_27 := kq_27; have q_wb_28 := wb_28; have q_pwc := pwc; have q_f2_5 := f2_5; have q_f3_5 := f3_5; have q_wb_6 := wb_6; have q_f1_26 := f1_26; have q_f4_26 := f4_26; have q_f5_26 := f5_26; have q_f1_5 := f1_5; have q_f4_5 := f4_5; have q_f5_5 := f5_5; have g_c1_26 := i_rg c1_26; have g_c1_5 := i_rg c1_5; omega)))) (cwV 1 hts (gd_V kw_140 kw_13 kw_14 kw_3 kw_12) rfl rfl rfl (by decide +kernel) ⟨Nat.le_of_ble_eq_true rfl, Nat.le_of_ble_eq_true rfl⟩) ⟨gblindH, va_recv hK hP (ci := 0) (q0 := k_5) rfl hk_26, fun U hU hW9 => gmkH hU hW9 hP hK hD hex hE hS hFc⟩ rfl rfl hl.1 rfl (lv_room (Nat.le_of_ble_eq_true rfl)) dX11_putGrow_54 ⟨(show 0 + dc_12 + (PC ws_9 + (0)) ≤ PC ws + (0) from (by have e0 : (0 : Int32).toInt = 0 := (by decide); omega)), (show 0 + ds_13 + (PS ws_9 + (0)) ≤ PS ws + (0) from (by have e0 : (0 : Int32).toInt = 0 := (by decide); omega))⟩) hS (fun q _ h => hFc q h) hFc (fun  ws_31 t9 H1 locs ht9 hvm9 hw9 hB9 hz9 hk9 hS => ?_)
    obtain ⟨E_32, Fr_33, hG, hP1, hD1, dc_34, ds_35, hLd, hdc_34, hds_35⟩ := hB9
    rw [ht9] at hLd
    refine W_tight (hL0.tr hLd).1 (hL0.tr hLd).2.1 ?_
    clear hL0 hLd
    have hP : va_P (gD g) cl0 ws_31 H1 := by rw [← ht9]; exact hP1
    have hD : va_D A ws_31 := hD1.weaken (fun _ _ _ h => hFc _ h)
    have kf_36 := hw9
    clear hP1 hD1 hz9 hk9 hvm9 ht9 hw9
    generalize H1 = H at hP hS ⊢
    have aa_37 := a_r3_25
    have aa_38 := a_r4_25
    have aa_39 := a_r10_25
    have aa_40 := a_r11_25
    have aa_41 := a_r12_25
    have aa_42 := a_r13_25
    have aa_43 := a_r16_25
    have aa_44 := a_r17_25
    have aa_45 := a_r0_26
    have o_h0 := E_32.1 _ _ o_h0
    have tq_46 : wcP ws_31 h0 0 ((wb + 1) + 1) wc := wcP_1 hDW hG Fr_33 (by decide) (by decide) (by decide) (by decide) hkW rfl (fun k9 ci9 fs9 h9 c9 e9 => by have w9 := kf_36 _ _ _ h9 c9 e9; omega) tq_24
    refine lv_aload_n hx hb dX11_putGrow_57 rfl (lv_at hl 0 rfl) ?_
    obtain ⟨fs9, hk_47, hq_47⟩ := ((gF.a (F' := [(0, 0), (0, 1)]) Fr_33 (fun _ h => h))) _ _ _ hk_25
    obtain ⟨r0_47, r1_47, r2_47, r3_47, n3_47, r4_47, n4_47, c5_47, c6_47, v7_47, c8_47, c9_47, r10_47, n10_47, r11_47, n11_47, r12_47, n12_47, r13_47, n13_47, r14_47, v15_47, r16_47, n16_47, r17_47, n17_47, rfl, o_r0_47, o_r1_47, o_r2_47, a_r3_47, f4_47, a_r4_47, f6_47, hz_c6_47, o_v7_47, a_r10_47, f10_47, a_r11_47, f12_47, a_r12_47, f14_47, a_r13_47, f16_47, o_r14_47, o_v15_47, a_r16_47, f20_47, a_r17_47, f22_47, f23_47, f24_47, f25_47, f26_47, f27_47, f28_47, -⟩ := (hG.1 _ _ _ _ hk_47).hX11 rfl
    obtain rfl := fe_r (hq_47 1 (by decide))
    have o_r1_4 := o_r1_47
    obtain rfl := fe_q (hq_47 7 (by decide))
    have o_v7_4 := o_v7_47
    obtain rfl := fe_q (hq_47 15 (by decide))
    have o_v15_4 := o_v15_47
    refine va_get (D := gD g) (ci := 10) (v := .ref r1_4) (C := RX11) (T := TX11) (N := 18) hx hb hts inX11 hown hK hP k_4 hk_47 rfl 1 (by decide) (hts _ kw_94) (fun _ h9 => h9) rfl dX11_putGrow_58 ?_
    refine lv_iload_n hx hb dX11_putGrow_61 rfl (lv_at hl 1 rfl) ?_
    obtain ⟨fs9, hk_48, hq_48⟩ := ((gF.a (F' := [(0, 0), (0, 1)]) Fr_33 (fun _ h => h))) _ _ _ hk_26
    obtain ⟨r0_48, n0_48, c1_48, rfl, a_r0_48, f1_48, f2_48, f3_48, f4_48, f5_48, -⟩ := (hG.1 _ _ _ _ hk_48).hX0 rfl
    have kq_49 := kf_36 _ _ _ hk_48 _ rfl
    have wb_50 : c1_48.toInt ≤ ((wb + 1) + 1) := wcP_u1 hD hk_47 rfl hk_48 rfl tq_46
    have hkW := hk_47
    have hDW := hD
    have hFc := gfree hD hS hA
    have pg_51 := ge_10_17 hD hk_47 rfl a_r17_47
    have pg_52 := ge_0_0 hD hk_48 rfl a_r0_48
    refine W_led (fun hL0 => ?_)
    refine va_callv (va_runV (As := [.int x1]) (rest := []) ⟨hx, hb, hml, hown, hts⟩ (m_X0_put2 l g H ws_31 r1_4 (x1) (c1_48) hG o_r1_4 (gP_of hD hk_48 (fun q90 e90 => by cases e90; exact (by have q_f2_48 := f2_48; have q_f3_48 := f3_48; have q_kq_49 := kq_49; have q_wb_50 := wb_50; have q_pwc := pwc; have q_wb_6 := wb_6; have q_f2_26 := f2_26; have q_f3_26 := f3_26; have q_kq_27 := kq_27; have q_wb_28 := wb_28; have q_f1_48 := f1_48; have q_f4_48 := f4_48; have q_f5_48 := f5_48; have q_f2_5 := f2_5; have q_f3_5 := f3_5; have q_f1_26 := f1_26; have q_f4_26 := f4_26; have q_f5_26 := f5_26; have g_c1_26 := i_rg c1_26; have g_c1_48 := i_rg c1_48; have g_c1_5 := i_rg c1_5; omega))) (gP_of hD hk_48 (fun q90 e90 => by cases e90; exact (by have q_f2_48 := f2_48; have q_f3_48 := f3_48; have q_kq_49 := kq_49; have q_wb_50 := wb_50; have q_pwc := pwc; have q_wb_6 := wb_6; have q_f2_26 := f2_26; have q_f3_26 := f3_26; have q_kq_27 := kq_27; have q_wb_28 := wb_28; have q_f1_48 := f1_48; have q_f4_48 := f4_48; have q_f5_48 := f5_48; have q_f2_5 := f2_5; have q_f3_5 := f3_5; have q_f1_26 := f1_26; have q_f4_26 := f4_26; have q_f5_26 := f5_26; have g_c1_26 := i_rg c1_26; have g_c1_48 := i_rg c1_48; have g_c1_5 := i_rg c1_5; omega)))) (cwV 1 hts (gd_V kw_96 kw_17 kw_18 kw_3 kw_16) rfl rfl rfl (by decide +kernel) ⟨Nat.le_of_ble_eq_true rfl, Nat.le_of_ble_eq_true rfl⟩) ⟨gblindH, va_recv hK hP (ci := 0) (q0 := k_5) rfl hk_48, fun U hU hW9 => gmkH hU hW9 hP hK hD hex hE hS hFc⟩ rfl rfl hl.1 rfl (lv_room (Nat.le_of_ble_eq_true rfl)) dX11_putGrow_62 ⟨(show 0 + dc_12 + dc_34 + (PC ws_31 + (0)) ≤ PC ws + (0) from (by have e0 : (0 : Int32).toInt = 0 := (by decide); omega)), (show 0 + ds_13 + ds_35 + (PS ws_31 + (0)) ≤ PS ws + (0) from (by have e0 : (0 : Int32).toInt = 0 := (by decide); omega))⟩) hS (fun q _ h => hFc q h) hFc (fun  ws_53 t9 H1 locs ht9 hvm9 hw9 hB9 hz9 hk9 hS => ?_)
    obtain ⟨E_54, Fr_55, hG, hP1, hD1, dc_56, ds_57, hLd, hdc_56, hds_57⟩ := hB9
    rw [ht9] at hLd
    refine W_tight (hL0.tr hLd).1 (hL0.tr hLd).2.1 ?_
    clear hL0 hLd
    have hP : va_P (gD g) cl0 ws_53 H1 := by rw [← ht9]; exact hP1
    have hD : va_D A ws_53 := hD1.weaken (fun _ _ _ h => hFc _ h)
    have kf_58 := hw9
    clear hP1 hD1 hz9 hk9 hvm9 ht9 hw9
    generalize H1 = H at hP hS ⊢
    have aa_59 := a_r3_47
    have aa_60 := a_r4_47
    have aa_61 := a_r10_47
    have aa_62 := a_r11_47
    have aa_63 := a_r12_47
    have aa_64 := a_r13_47
    have aa_65 := a_r16_47
    have aa_66 := a_r17_47
    have aa_67 := a_r0_48
    have o_h0 := E_54.1 _ _ o_h0
    have tq_68 : wcP ws_53 h0 0 (((wb + 1) + 1) + 2) wc := wcP_1 hDW hG Fr_55 (by decide) (by decide) (by decide) (by decide) hkW rfl (fun k9 ci9 fs9 h9 c9 e9 => by have w9 := kf_58 _ _ _ h9 c9 e9; omega) tq_46
    refine lv_aload_n hx hb dX11_putGrow_65 rfl (lv_at hl 0 rfl) ?_
    obtain ⟨fs9, hk_69, hq_69⟩ := ((gF.a (F' := [(0, 0), (0, 1)]) Fr_55 (fun _ h => h))) _ _ _ hk_47
    obtain ⟨r0_69, r1_69, r2_69, r3_69, n3_69, r4_69, n4_69, c5_69, c6_69, v7_69, c8_69, c9_69, r10_69, n10_69, r11_69, n11_69, r12_69, n12_69, r13_69, n13_69, r14_69, v15_69, r16_69, n16_69, r17_69, n17_69, rfl, o_r0_69, o_r1_69, o_r2_69, a_r3_69, f4_69, a_r4_69, f6_69, hz_c6_69, o_v7_69, a_r10_69, f10_69, a_r11_69, f12_69, a_r12_69, f14_69, a_r13_69, f16_69, o_r14_69, o_v15_69, a_r16_69, f20_69, a_r17_69, f22_69, f23_69, f24_69, f25_69, f26_69, f27_69, f28_69, -⟩ := (hG.1 _ _ _ _ hk_69).hX11 rfl
    obtain rfl := fe_r (hq_69 1 (by decide))
    have o_r1_4 := o_r1_69
    obtain rfl := fe_q (hq_69 7 (by decide))
    have o_v7_4 := o_v7_69
    obtain rfl := fe_q (hq_69 15 (by decide))
    have o_v15_4 := o_v15_69
    refine va_get (D := gD g) (ci := 10) (v := .ref r1_4) (C := RX11) (T := TX11) (N := 18) hx hb hts inX11 hown hK hP k_4 hk_69 rfl 1 (by decide) (hts _ kw_94) (fun _ h9 => h9) rfl dX11_putGrow_66 ?_
    refine lv_iload_n hx hb dX11_putGrow_69 rfl (lv_at hl 2 rfl) ?_
    obtain ⟨fs9, hk_70, hq_70⟩ := ((gF.a (F' := [(0, 0), (0, 1)]) Fr_55 (fun _ h => h))) _ _ _ hk_48
    obtain ⟨r0_70, n0_70, c1_70, rfl, a_r0_70, f1_70, f2_70, f3_70, f4_70, f5_70, -⟩ := (hG.1 _ _ _ _ hk_70).hX0 rfl
    have kq_71 := kf_58 _ _ _ hk_70 _ rfl
    have wb_72 : c1_70.toInt ≤ (((wb + 1) + 1) + 2) := wcP_u1 hD hk_69 rfl hk_70 rfl tq_68
    have hkW := hk_69
    have hDW := hD
    have hFc := gfree hD hS hA
    have pg_73 := ge_10_17 hD hk_69 rfl a_r17_69
    have pg_74 := ge_0_0 hD hk_70 rfl a_r0_70
    refine W_led (fun hL0 => ?_)
    refine va_callv (va_runV (As := [.int x2]) (rest := []) ⟨hx, hb, hml, hown, hts⟩ (m_X0_put2 l g H ws_53 r1_4 (x2) (c1_70) hG o_r1_4 (gP_of hD hk_70 (fun q90 e90 => by cases e90; exact (by have q_f2_70 := f2_70; have q_f3_70 := f3_70; have q_kq_71 := kq_71; have q_wb_72 := wb_72; have q_pwc := pwc; have q_wb_6 := wb_6; have q_wb_28 := wb_28; have q_f2_48 := f2_48; have q_f3_48 := f3_48; have q_kq_49 := kq_49; have q_wb_50 := wb_50; have q_f1_70 := f1_70; have q_f4_70 := f4_70; have q_f5_70 := f5_70; have q_f2_5 := f2_5; have q_f3_5 := f3_5; have q_f2_26 := f2_26; have q_f3_26 := f3_26; have q_kq_27 := kq_27; have q_f1_48 := f1_48; have q_f4_48 := f4_48; have q_f5_48 := f5_48; have g_c1_26 := i_rg c1_26; have g_c1_48 := i_rg c1_48; have g_c1_5 := i_rg c1_5; have g_c1_70 := i_rg c1_70; omega))) (gP_of hD hk_70 (fun q90 e90 => by cases e90; exact (by have q_f2_70 := f2_70; have q_f3_70 := f3_70; have q_kq_71 := kq_71; have q_wb_72 := wb_72; have q_pwc := pwc; have q_wb_6 := wb_6; have q_wb_28 := wb_28; have q_f2_48 := f2_48; have q_f3_48 := f3_48; have q_kq_49 := kq_49; have q_wb_50 := wb_50; have q_f1_70 := f1_70; have q_f4_70 := f4_70; have q_f5_70 := f5_70; have q_f2_5 := f2_5; have q_f3_5 := f3_5; have q_f2_26 := f2_26; have q_f3_26 := f3_26; have q_kq_27 := kq_27; have q_f1_48 := f1_48; have q_f4_48 := f4_48; have q_f5_48 := f5_48; have g_c1_26 := i_rg c1_26; have g_c1_48 := i_rg c1_48; have g_c1_5 := i_rg c1_5; have g_c1_70 := i_rg c1_70; omega)))) (cwV 1 hts (gd_V kw_96 kw_17 kw_18 kw_3 kw_16) rfl rfl rfl (by decide +kernel) ⟨Nat.le_of_ble_eq_true rfl, Nat.le_of_ble_eq_true rfl⟩) ⟨gblindH, va_recv hK hP (ci := 0) (q0 := k_5) rfl hk_70, fun U hU hW9 => gmkH hU hW9 hP hK hD hex hE hS hFc⟩ rfl rfl hl.1 rfl (lv_room (Nat.le_of_ble_eq_true rfl)) dX11_putGrow_70 ⟨(show 0 + dc_12 + dc_34 + dc_56 + (PC ws_53 + (0)) ≤ PC ws + (0) from (by have e0 : (0 : Int32).toInt = 0 := (by decide); omega)), (show 0 + ds_13 + ds_35 + ds_57 + (PS ws_53 + (0)) ≤ PS ws + (0) from (by have e0 : (0 : Int32).toInt = 0 := (by decide); omega))⟩) hS (fun q _ h => hFc q h) hFc (fun  ws_75 t9 H1 locs ht9 hvm9 hw9 hB9 hz9 hk9 hS => ?_)
    obtain ⟨E_76, Fr_77, hG, hP1, hD1, dc_78, ds_79, hLd, hdc_78, hds_79⟩ := hB9
    rw [ht9] at hLd
    refine W_tight (hL0.tr hLd).1 (hL0.tr hLd).2.1 ?_
    clear hL0 hLd
    have hP : va_P (gD g) cl0 ws_75 H1 := by rw [← ht9]; exact hP1
    have hD : va_D A ws_75 := hD1.weaken (fun _ _ _ h => hFc _ h)
    have kf_80 := hw9
    clear hP1 hD1 hz9 hk9 hvm9 ht9 hw9
    generalize H1 = H at hP hS ⊢
    have aa_81 := a_r3_69
    have aa_82 := a_r4_69
    have aa_83 := a_r10_69
    have aa_84 := a_r11_69
    have aa_85 := a_r12_69
    have aa_86 := a_r13_69
    have aa_87 := a_r16_69
    have aa_88 := a_r17_69
    have aa_89 := a_r0_70
    have o_h0 := E_76.1 _ _ o_h0
    have tq_90 : wcP ws_75 h0 0 ((((wb + 1) + 1) + 2) + 2) wc := wcP_1 hDW hG Fr_77 (by decide) (by decide) (by decide) (by decide) hkW rfl (fun k9 ci9 fs9 h9 c9 e9 => by have w9 := kf_80 _ _ _ h9 c9 e9; omega) tq_68
    refine W_led (fun hLd => ?_)
    have hcl : 0 + dc_12 + dc_34 + dc_56 + dc_78 + PC ws_75 ≤ PC ws + (0) := (by omega)
    have hsl : 0 + ds_13 + ds_35 + ds_57 + ds_79 + PS ws_75 ≤ PS ws + (0) := (by omega)
    refine W.widen (k := PC ws + (0)) (n := PS ws + (0)) (by omega) (by omega) ?_
    have tq_91 : wcP ws_75 h0 0 (wb + 6) (wc + 0) := wcP_le (by omega) (by omega) (by omega) tq_90
    exact W.vret hx hb hr (fun t9 ht9 hW9 => ⟨⟨ws_75, rfl, ⟨trivial, tq_91⟩, ⟨(E_10.tr (E_32.tr (E_54.tr E_76))), (gF.tr (gF.mo (F' := [(0, 0), (0, 1)]) (C' := [(0, 0), (6, 0)]) (S' := none) Fr_11 (fun _ h => h) (fun _ h => h) (Or.inl rfl)) (gF.tr (gF.mo (F' := [(0, 0), (0, 1)]) (C' := [(0, 0), (6, 0)]) (S' := none) Fr_33 (fun _ h => h) (fun _ h => h) (Or.inl rfl)) (gF.tr (gF.mo (F' := [(0, 0), (0, 1)]) (C' := [(0, 0), (6, 0)]) (S' := none) Fr_55 (fun _ h => h) (fun _ h => h) (Or.inl rfl)) (gF.mo (F' := [(0, 0), (0, 1)]) (C' := [(0, 0), (6, 0)]) (S' := none) Fr_77 (fun _ h => h) (fun _ h => h) (Or.inl rfl))))), hG, by rw [ht9]; exact hP, hD, _, _, by rw [ht9]; exact hLd, hcl, hsl⟩⟩, hS.F ht9⟩) hS.2.2 dX11_putGrow_73
  · refine lv_aload_n hx hb dX11_putGrow_8 rfl (lv_at hl 0 rfl) ?_
    obtain ⟨k_92, fs9, hk_92⟩ := gC_of o_h0
    obtain ⟨r0_92, r1_92, r2_92, r3_92, n3_92, r4_92, n4_92, c5_92, c6_92, v7_92, c8_92, c9_92, r10_92, n10_92, r11_92, n11_92, r12_92, n12_92, r13_92, n13_92, r14_92, v15_92, r16_92, n16_92, r17_92, n17_92, rfl, o_r0_92, o_r1_92, o_r2_92, a_r3_92, f4_92, a_r4_92, f6_92, hz_c6_92, o_v7_92, a_r10_92, f10_92, a_r11_92, f12_92, a_r12_92, f14_92, a_r13_92, f16_92, o_r14_92, o_v15_92, a_r16_92, f20_92, a_r17_92, f22_92, f23_92, f24_92, f25_92, f26_92, f27_92, f28_92, -⟩ := (hG.1 _ _ _ _ hk_92).hX11 rfl
    refine va_get (D := gD g) (ci := 10) (v := .ref r1_92) (C := RX11) (T := TX11) (N := 18) hx hb hts inX11 hown hK hP k_92 hk_92 rfl 1 (by decide) (hts _ kw_94) (fun _ h9 => h9) rfl dX11_putGrow_9 ?_
    refine lv_sipush (v := 132) hx hb dX11_putGrow_12 (by decide) ?_
    obtain ⟨k_93, fs9, hk_93⟩ := gC_of o_r1_92
    obtain ⟨r0_93, n0_93, c1_93, rfl, a_r0_93, f1_93, f2_93, f3_93, f4_93, f5_93, -⟩ := (hG.1 _ _ _ _ hk_93).hX0 rfl
    have wb_94 : c1_93.toInt ≤ wb := wcP_u1 hD hk_92 rfl hk_93 rfl tk0
    have hkW := hk_92
    have hDW := hD
    have hFc := gfree hD hS hA
    have pg_95 := ge_10_17 hD hk_92 rfl a_r17_92
    have pg_96 := ge_0_0 hD hk_93 rfl a_r0_93
    refine W_led (fun hL0 => ?_)
    refine va_callv (va_runV (As := [.int 132]) (rest := []) ⟨hx, hb, hml, hown, hts⟩ (m_X0_put l g H ws r1_92 (132) (c1_93) hG o_r1_92 (gP_of hD hk_93 (fun q90 e90 => by cases e90; exact (by have q_f2_93 := f2_93; have q_f3_93 := f3_93; have q_wb_94 := wb_94; have q_pwc := pwc; have q_f1_93 := f1_93; have q_f4_93 := f4_93; have q_f5_93 := f5_93; have g_c1_93 := i_rg c1_93; omega))) (gP_of hD hk_93 (fun q90 e90 => by cases e90; exact (by have q_f2_93 := f2_93; have q_f3_93 := f3_93; have q_wb_94 := wb_94; have q_pwc := pwc; have q_f1_93 := f1_93; have q_f4_93 := f4_93; have q_f5_93 := f5_93; have g_c1_93 := i_rg c1_93; omega)))) (cwV 1 hts (gd_V kw_140 kw_13 kw_14 kw_3 kw_12) rfl rfl rfl (by decide +kernel) ⟨Nat.le_of_ble_eq_true rfl, Nat.le_of_ble_eq_true rfl⟩) ⟨gblindH, va_recv hK hP (ci := 0) (q0 := k_93) rfl hk_93, fun U hU hW9 => gmkH hU hW9 hP hK hD hex hE hS hFc⟩ rfl rfl hl.1 rfl (lv_room (Nat.le_of_ble_eq_true rfl)) dX11_putGrow_15 ⟨(show 0 + (PC ws + (0)) ≤ PC ws + (0) from (by have e0 : (0 : Int32).toInt = 0 := (by decide); omega)), (show 0 + (PS ws + (0)) ≤ PS ws + (0) from (by have e0 : (0 : Int32).toInt = 0 := (by decide); omega))⟩) hS (fun q _ h => hFc q h) hFc (fun  ws_97 t9 H1 locs ht9 hvm9 hw9 hB9 hz9 hk9 hS => ?_)
    obtain ⟨E_98, Fr_99, hG, hP1, hD1, dc_100, ds_101, hLd, hdc_100, hds_101⟩ := hB9
    rw [ht9] at hLd
    refine W_tight (hL0.tr hLd).1 (hL0.tr hLd).2.1 ?_
    clear hL0 hLd
    have hP : va_P (gD g) cl0 ws_97 H1 := by rw [← ht9]; exact hP1
    have hD : va_D A ws_97 := hD1.weaken (fun _ _ _ h => hFc _ h)
    have kf_102 := hw9
    clear hP1 hD1 hz9 hk9 hvm9 ht9 hw9
    generalize H1 = H at hP hS ⊢
    have aa_103 := a_r3_92
    have aa_104 := a_r4_92
    have aa_105 := a_r10_92
    have aa_106 := a_r11_92
    have aa_107 := a_r12_92
    have aa_108 := a_r13_92
    have aa_109 := a_r16_92
    have aa_110 := a_r17_92
    have aa_111 := a_r0_93
    have o_h0 := E_98.1 _ _ o_h0
    have tq_112 : wcP ws_97 h0 0 (wb + 1) wc := wcP_1 hDW hG Fr_99 (by decide) (by decide) (by decide) (by decide) hkW rfl (fun k9 ci9 fs9 h9 c9 e9 => by have w9 := kf_102 _ _ _ h9 c9 e9; omega) tk0
    refine lv_aload_n hx hb dX11_putGrow_18 rfl (lv_at hl 0 rfl) ?_
    obtain ⟨fs9, hk_113, hq_113⟩ := ((gF.a (F' := [(0, 0), (0, 1)]) Fr_99 (fun _ h => h))) _ _ _ hk_92
    obtain ⟨r0_113, r1_113, r2_113, r3_113, n3_113, r4_113, n4_113, c5_113, c6_113, v7_113, c8_113, c9_113, r10_113, n10_113, r11_113, n11_113, r12_113, n12_113, r13_113, n13_113, r14_113, v15_113, r16_113, n16_113, r17_113, n17_113, rfl, o_r0_113, o_r1_113, o_r2_113, a_r3_113, f4_113, a_r4_113, f6_113, hz_c6_113, o_v7_113, a_r10_113, f10_113, a_r11_113, f12_113, a_r12_113, f14_113, a_r13_113, f16_113, o_r14_113, o_v15_113, a_r16_113, f20_113, a_r17_113, f22_113, f23_113, f24_113, f25_113, f26_113, f27_113, f28_113, -⟩ := (hG.1 _ _ _ _ hk_113).hX11 rfl
    obtain rfl := fe_r (hq_113 1 (by decide))
    have o_r1_92 := o_r1_113
    obtain rfl := fe_q (hq_113 7 (by decide))
    have o_v7_92 := o_v7_113
    obtain rfl := fe_q (hq_113 15 (by decide))
    have o_v15_92 := o_v15_113
    refine va_get (D := gD g) (ci := 10) (v := .ref r1_92) (C := RX11) (T := TX11) (N := 18) hx hb hts inX11 hown hK hP k_92 hk_113 rfl 1 (by decide) (hts _ kw_94) (fun _ h9 => h9) rfl dX11_putGrow_19 ?_
    refine lv_iload_n hx hb dX11_putGrow_22 rfl (lv_at hl 1 rfl) ?_
    obtain ⟨fs9, hk_114, hq_114⟩ := ((gF.a (F' := [(0, 0), (0, 1)]) Fr_99 (fun _ h => h))) _ _ _ hk_93
    obtain ⟨r0_114, n0_114, c1_114, rfl, a_r0_114, f1_114, f2_114, f3_114, f4_114, f5_114, -⟩ := (hG.1 _ _ _ _ hk_114).hX0 rfl
    have kq_115 := kf_102 _ _ _ hk_114 _ rfl
    have wb_116 : c1_114.toInt ≤ (wb + 1) := wcP_u1 hD hk_113 rfl hk_114 rfl tq_112
    have hkW := hk_113
    have hDW := hD
    have hFc := gfree hD hS hA
    have pg_117 := ge_10_17 hD hk_113 rfl a_r17_113
    have pg_118 := ge_0_0 hD hk_114 rfl a_r0_114
    refine W_led (fun hL0 => ?_)
    refine va_callv (va_runV (As := [.int x1]) (rest := []) ⟨hx, hb, hml, hown, hts⟩ (m_X0_put l g H ws_97 r1_92 (x1) (c1_114) hG o_r1_92 (gP_of hD hk_114 (fun q90 e90 => by cases e90; exact (by have q_f2_114 := f2_114; have q_f3_114 := f3_114; have q_kq_115 := kq_115; have q_wb_116 := wb_116; have q_pwc := pwc; have q_f2_93 := f2_93; have q_f3_93 := f3_93; have q_wb_94 := wb_94; have q_f1_114 := f1_114; have q_f4_114 := f4_114; have q_f5_114 := f5_114; have q_f1_93 := f1_93; have q_f4_93 := f4_93; have q_f5_93 := f5_93; have g_c1_114 := i_rg c1_114; have g_c1_93 := i_rg c1_93; omega))) (gP_of hD hk_114 (fun q90 e90 => by cases e90; exact (by have q_f2_114 := f2_114; have q_f3_114 := f3_114; have q_kq_115 := kq_115; have q_wb_116 := wb_116; have q_pwc := pwc; have q_f2_93 := f2_93; have q_f3_93 := f3_93; have q_wb_94 := wb_94; have q_f1_114 := f1_114; have q_f4_114 := f4_114; have q_f5_114 := f5_114; have q_f1_93 := f1_93; have q_f4_93 := f4_93; have q_f5_93 := f5_93; have g_c1_114 := i_rg c1_114; have g_c1_93 := i_rg c1_93; omega)))) (cwV 1 hts (gd_V kw_140 kw_13 kw_14 kw_3 kw_12) rfl rfl rfl (by decide +kernel) ⟨Nat.le_of_ble_eq_true rfl, Nat.le_of_ble_eq_true rfl⟩) ⟨gblindH, va_recv hK hP (ci := 0) (q0 := k_93) rfl hk_114, fun U hU hW9 => gmkH hU hW9 hP hK hD hex hE hS hFc⟩ rfl rfl hl.1 rfl (lv_room (Nat.le_of_ble_eq_true rfl)) dX11_putGrow_23 ⟨(show 0 + dc_100 + (PC ws_97 + (0)) ≤ PC ws + (0) from (by have e0 : (0 : Int32).toInt = 0 := (by decide); omega)), (show 0 + ds_101 + (PS ws_97 + (0)) ≤ PS ws + (0) from (by have e0 : (0 : Int32).toInt = 0 := (by decide); omega))⟩) hS (fun q _ h => hFc q h) hFc (fun  ws_119 t9 H1 locs ht9 hvm9 hw9 hB9 hz9 hk9 hS => ?_)
    obtain ⟨E_120, Fr_121, hG, hP1, hD1, dc_122, ds_123, hLd, hdc_122, hds_123⟩ := hB9
    rw [ht9] at hLd
    refine W_tight (hL0.tr hLd).1 (hL0.tr hLd).2.1 ?_
    clear hL0 hLd
    have hP : va_P (gD g) cl0 ws_119 H1 := by rw [← ht9]; exact hP1
    have hD : va_D A ws_119 := hD1.weaken (fun _ _ _ h => hFc _ h)
    have kf_124 := hw9
    clear hP1 hD1 hz9 hk9 hvm9 ht9 hw9
    generalize H1 = H at hP hS ⊢
    have aa_125 := a_r3_113
    have aa_126 := a_r4_113
    have aa_127 := a_r10_113
    have aa_128 := a_r11_113
    have aa_129 := a_r12_113
    have aa_130 := a_r13_113
    have aa_131 := a_r16_113
    have aa_132 := a_r17_113
    have aa_133 := a_r0_114
    have o_h0 := E_120.1 _ _ o_h0
    have tq_134 : wcP ws_119 h0 0 ((wb + 1) + 1) wc := wcP_1 hDW hG Fr_121 (by decide) (by decide) (by decide) (by decide) hkW rfl (fun k9 ci9 fs9 h9 c9 e9 => by have w9 := kf_124 _ _ _ h9 c9 e9; omega) tq_112
    refine lv_aload_n hx hb dX11_putGrow_26 rfl (lv_at hl 0 rfl) ?_
    obtain ⟨fs9, hk_135, hq_135⟩ := ((gF.a (F' := [(0, 0), (0, 1)]) Fr_121 (fun _ h => h))) _ _ _ hk_113
    obtain ⟨r0_135, r1_135, r2_135, r3_135, n3_135, r4_135, n4_135, c5_135, c6_135, v7_135, c8_135, c9_135, r10_135, n10_135, r11_135, n11_135, r12_135, n12_135, r13_135, n13_135, r14_135, v15_135, r16_135, n16_135, r17_135, n17_135, rfl, o_r0_135, o_r1_135, o_r2_135, a_r3_135, f4_135, a_r4_135, f6_135, hz_c6_135, o_v7_135, a_r10_135, f10_135, a_r11_135, f12_135, a_r12_135, f14_135, a_r13_135, f16_135, o_r14_135, o_v15_135, a_r16_135, f20_135, a_r17_135, f22_135, f23_135, f24_135, f25_135, f26_135, f27_135, f28_135, -⟩ := (hG.1 _ _ _ _ hk_135).hX11 rfl
    obtain rfl := fe_r (hq_135 1 (by decide))
    have o_r1_92 := o_r1_135
    obtain rfl := fe_q (hq_135 7 (by decide))
    have o_v7_92 := o_v7_135
    obtain rfl := fe_q (hq_135 15 (by decide))
    have o_v15_92 := o_v15_135
    refine va_get (D := gD g) (ci := 10) (v := .ref r1_92) (C := RX11) (T := TX11) (N := 18) hx hb hts inX11 hown hK hP k_92 hk_135 rfl 1 (by decide) (hts _ kw_94) (fun _ h9 => h9) rfl dX11_putGrow_27 ?_
    refine lv_iload_n hx hb dX11_putGrow_30 rfl (lv_at hl 2 rfl) ?_
    obtain ⟨fs9, hk_136, hq_136⟩ := ((gF.a (F' := [(0, 0), (0, 1)]) Fr_121 (fun _ h => h))) _ _ _ hk_114
    obtain ⟨r0_136, n0_136, c1_136, rfl, a_r0_136, f1_136, f2_136, f3_136, f4_136, f5_136, -⟩ := (hG.1 _ _ _ _ hk_136).hX0 rfl
    have kq_137 := kf_124 _ _ _ hk_136 _ rfl
    have wb_138 : c1_136.toInt ≤ ((wb + 1) + 1) := wcP_u1 hD hk_135 rfl hk_136 rfl tq_134
    have hkW := hk_135
    have hDW := hD
    have hFc := gfree hD hS hA
    have pg_139 := ge_10_17 hD hk_135 rfl a_r17_135
    have pg_140 := ge_0_0 hD hk_136 rfl a_r0_136
    refine W_led (fun hL0 => ?_)
    refine va_callv (va_runV (As := [.int x2]) (rest := []) ⟨hx, hb, hml, hown, hts⟩ (m_X0_put l g H ws_119 r1_92 (x2) (c1_136) hG o_r1_92 (gP_of hD hk_136 (fun q90 e90 => by cases e90; exact (by have q_f2_136 := f2_136; have q_f3_136 := f3_136; have q_kq_137 := kq_137; have q_wb_138 := wb_138; have q_pwc := pwc; have q_wb_94 := wb_94; have q_f2_114 := f2_114; have q_f3_114 := f3_114; have q_kq_115 := kq_115; have q_wb_116 := wb_116; have q_f1_136 := f1_136; have q_f4_136 := f4_136; have q_f5_136 := f5_136; have q_f2_93 := f2_93; have q_f3_93 := f3_93; have q_f1_114 := f1_114; have q_f4_114 := f4_114; have q_f5_114 := f5_114; have g_c1_114 := i_rg c1_114; have g_c1_136 := i_rg c1_136; have g_c1_93 := i_rg c1_93; omega))) (gP_of hD hk_136 (fun q90 e90 => by cases e90; exact (by have q_f2_136 := f2_136; have q_f3_136 := f3_136; have q_kq_137 := kq_137; have q_wb_138 := wb_138; have q_pwc := pwc; have q_wb_94 := wb_94; have q_f2_114 := f2_114; have q_f3_114 := f3_114; have q_kq_115 := kq_115; have q_wb_116 := wb_116; have q_f1_136 := f1_136; have q_f4_136 := f4_136; have q_f5_136 := f5_136; have q_f2_93 := f2_93; have q_f3_93 := f3_93; have q_f1_114 := f1_114; have q_f4_114 := f4_114; have q_f5_114 := f5_114; have g_c1_114 := i_rg c1_114; have g_c1_136 := i_rg c1_136; have g_c1_93 := i_rg c1_93; omega)))) (cwV 1 hts (gd_V kw_140 kw_13 kw_14 kw_3 kw_12) rfl rfl rfl (by decide +kernel) ⟨Nat.le_of_ble_eq_true rfl, Nat.le_of_ble_eq_true rfl⟩) ⟨gblindH, va_recv hK hP (ci := 0) (q0 := k_93) rfl hk_136, fun U hU hW9 => gmkH hU hW9 hP hK hD hex hE hS hFc⟩ rfl rfl hl.1 rfl (lv_room (Nat.le_of_ble_eq_true rfl)) dX11_putGrow_31 ⟨(show 0 + dc_100 + dc_122 + (PC ws_119 + (0)) ≤ PC ws + (0) from (by have e0 : (0 : Int32).toInt = 0 := (by decide); omega)), (show 0 + ds_101 + ds_123 + (PS ws_119 + (0)) ≤ PS ws + (0) from (by have e0 : (0 : Int32).toInt = 0 := (by decide); omega))⟩) hS (fun q _ h => hFc q h) hFc (fun  ws_141 t9 H1 locs ht9 hvm9 hw9 hB9 hz9 hk9 hS => ?_)
    obtain ⟨E_142, Fr_143, hG, hP1, hD1, dc_144, ds_145, hLd, hdc_144, hds_145⟩ := hB9
    rw [ht9] at hLd
    refine W_tight (hL0.tr hLd).1 (hL0.tr hLd).2.1 ?_
    clear hL0 hLd
    have hP : va_P (gD g) cl0 ws_141 H1 := by rw [← ht9]; exact hP1
    have hD : va_D A ws_141 := hD1.weaken (fun _ _ _ h => hFc _ h)
    have kf_146 := hw9
    clear hP1 hD1 hz9 hk9 hvm9 ht9 hw9
    generalize H1 = H at hP hS ⊢
    have aa_147 := a_r3_135
    have aa_148 := a_r4_135
    have aa_149 := a_r10_135
    have aa_150 := a_r11_135
    have aa_151 := a_r12_135
    have aa_152 := a_r13_135
    have aa_153 := a_r16_135
    have aa_154 := a_r17_135
    have aa_155 := a_r0_136
    have o_h0 := E_142.1 _ _ o_h0
    have tq_156 : wcP ws_141 h0 0 (((wb + 1) + 1) + 1) wc := wcP_1 hDW hG Fr_143 (by decide) (by decide) (by decide) (by decide) hkW rfl (fun k9 ci9 fs9 h9 c9 e9 => by have w9 := kf_146 _ _ _ h9 c9 e9; omega) tq_134
    refine lv_goto (tgt := 73) hx hb dX11_putGrow_34 (by decide) ?_
    refine W_led (fun hLd => ?_)
    have hcl : 0 + dc_100 + dc_122 + dc_144 + PC ws_141 ≤ PC ws + (0) := (by omega)
    have hsl : 0 + ds_101 + ds_123 + ds_145 + PS ws_141 ≤ PS ws + (0) := (by omega)
    refine W.widen (k := PC ws + (0)) (n := PS ws + (0)) (by omega) (by omega) ?_
    have tq_157 : wcP ws_141 h0 0 (wb + 6) (wc + 0) := wcP_le (by omega) (by omega) (by omega) tq_156
    exact W.vret hx hb hr (fun t9 ht9 hW9 => ⟨⟨ws_141, rfl, ⟨trivial, tq_157⟩, ⟨(E_98.tr (E_120.tr E_142)), (gF.tr (gF.mo (F' := [(0, 0), (0, 1)]) (C' := [(0, 0), (6, 0)]) (S' := none) Fr_99 (fun _ h => h) (fun _ h => h) (Or.inl rfl)) (gF.tr (gF.mo (F' := [(0, 0), (0, 1)]) (C' := [(0, 0), (6, 0)]) (S' := none) Fr_121 (fun _ h => h) (fun _ h => h) (Or.inl rfl)) (gF.mo (F' := [(0, 0), (0, 1)]) (C' := [(0, 0), (6, 0)]) (S' := none) Fr_143 (fun _ h => h) (fun _ h => h) (Or.inl rfl)))), hG, by rw [ht9]; exact hP, hD, _, _, by rw [ht9]; exact hLd, hcl, hsl⟩⟩, hS.F ht9⟩) hS.2.2 dX11_putGrow_73
