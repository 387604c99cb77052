set_option maxHeartbeats 1000000 in
set_option maxRecDepth 100000 in
theorem m_X12_feed (l : Launch) (g : Gm) (H0 : Heap) (ws : va_W) (h0 : Nat) (x1 : Int32) (x2 : Int32) (x3 : Int32) (x4 : Int32) (x5 : Int32) (hG : Good g ws) (o_h0 : gC ws h0 11) : Met l yX12_feed (wt yX12_feed cX12_feed 6 (some .int)) ({ frames := 5, cells := PC ws + (0), slots := PS ws + (0), locals := 125 }) (va_Pc [.ref h0, .int x1, .int x2, .int x3, .int x4, .int x5] (st_H g H0 ws)) (va_Qi (fun (r : Int32) (u9 : va_W) => True) (gQ2 g [(0, 0), (0, 1), (11, 10)] [(0, 0), (6, 0)] none (va_A ws H0.size) ws H0 (0) (0)) (va_A ws H0.size)) (PC ws + (0)) (PS ws + (0)) (va_A ws H0.size) := by
  refine Met.ofW (cc := cX12_feed) (maxL := 6) (ret := (some .int)) (by decide) rfl ?_
  intro p e s m args below meth c s₁ B hml hv
  obtain ⟨rfl, hH0, hsz, hP, hK, hD0, hex, hE⟩ := hv
  have hx := B.exec
  have hb := B.bytes
  have hr := B.returns
  have hts0 := atoms_spec (ws := wt yX12_feed cX12_feed 6 (some .int)) B.pre
  have hts : ∀ w ∈ tb, w.before _ s = true := fun w h => hts0 w (List.mem_cons_of_mem _ h)
  have hown : s.vm.findClass RX12 = some m.cls := findClass_of_methodNamed B.named
  subst hH0
  have hD := hD0.self (sz := s.heap.size)
  generalize hAe : va_A ws s.heap.size = A at hD hE ⊢
  have hA : ∀ q : Nat, s.heap.size ≤ q → A q := fun q h => by rw [← hAe]; exact Or.inr h
  have hS : va_S A s.heap s.heap [] := va_S.rf
  have hl := lv_entry ([.ref h0, .int x1, .int x2, .int x3, .int x4, .int x5]) (n := 6) (Nat.le_of_ble_eq_true rfl)
  rw [lg_entry_eq]
  generalize (lg_sl ([.ref h0, .int x1, .int x2, .int x3, .int x4, .int x5]) ++ List.replicate (6 - (lg_sl ([.ref h0, .int x1, .int x2, .int x3, .int x4, .int x5])).length) Slot.unset).toArray = ls at hl ⊢
  have hl : lv_has ls 6 [(0, .ref h0), (1, .int x1), (2, .int x2), (3, .int x3), (4, .int x4), (5, .int x5)] := hl
  refine lv_aload_n hx hb dX12_feed_0 rfl (lv_at hl 0 rfl) ?_
  obtain ⟨k_1, fs9, hk_1⟩ := gC_of o_h0
  obtain ⟨r0_1, r1_1, r2_1, r3_1, n3_1, r4_1, r5_1, r6_1, r7_1, r8_1, r9_1, c10_1, c11_1, c12_1, c13_1, c14_1, c15_1, c16_1, c17_1, rfl, o_r0_1, o_r1_1, o_r2_1, a_r3_1, f4_1, o_r4_1, o_r5_1, o_r6_1, o_r7_1, o_r8_1, o_r9_1, f11_1, f12_1, f13_1, f14_1, f15_1, f16_1, f17_1, -⟩ := (hG.1 _ _ _ _ hk_1).hX12 rfl
  refine va_get (D := gD g) (ci := 11) (v := .ref r0_1) (C := RX12) (T := TX12) (N := 18) hx hb hts inX12 hown hK hP k_1 hk_1 rfl 0 (by decide) (hts _ kw_349) (fun _ h9 => h9) rfl dX12_feed_1 ?_
  obtain ⟨k_2, fs9, hk_2⟩ := gC_of o_r0_1
  obtain ⟨r0_2, n0_2, c1_2, rfl, a_r0_2, f1_2, f2_2, f3_2, f4_2, f5_2, -⟩ := (hG.1 _ _ _ _ hk_2).hX0 rfl
  refine va_get (D := gD g) (ci := 0) (v := .int c1_2) (C := RX0) (T := TX0) (N := 2) hx hb hts inX0 hown hK hP k_2 hk_2 rfl 1 (by decide) (hts _ kw_311) (fun _ h9 => h9) rfl dX12_feed_4 ?_
  refine lv_bipush (v := 20) hx hb dX12_feed_7 (by decide) ?_
  refine lv_iadd hx hb dX12_feed_9 ?_
  refine lv_topi (fun z_3 ez_3 => ?_)
  refine lv_sipush (v := 16000) hx hb dX12_feed_10 (by decide) ?_
  have J_28 : ∀ (dc_28_1 : Nat) (ds_28_1 : Nat) (H : Heap) (locs : List Loc) (ls : Array Slot), dc_28_1 + PC ws ≤ PC ws + (0) → ds_28_1 + PS ws ≤ PS ws + (0) → va_P (gD g) cl0 ws H → va_D A ws → va_S A s.heap H locs → lv_has ls 6 [] → W p l e (headSpec (wt yX12_feed cX12_feed 6 (some .int)) ({ frames := 5, cells := PC ws + (0), slots := PS ws + (0), locals := 125 })).room s m ([.ref h0, .int x1, .int x2, .int x3, .int x4, .int x5] : List Value).toArray below meth c H locs (dc_28_1) (ds_28_1) (MQ below (va_Qi (fun (r : Int32) (u9 : va_W) => True) (gQ2 g [(0, 0), (0, 1), (11, 10)] [(0, 0), (6, 0)] none A ws s.heap (0) (0)) A) ([.ref h0, .int x1, .int x2, .int x3, .int x4, .int x5] : List Value).toArray s (PC ws + (0)) (PS ws + (0)) A) (F0 m 28 ls []) := by
    intro dc_28_1 ds_28_1 H locs ls  hc9 hs9 hP hD hS hl
    refine lv_iconst (v := (-1)) hx hb dX12_feed_28 (by decide) ?_
    refine W_led (fun hLd => ?_)
    have hcl : dc_28_1 + PC ws ≤ PC ws + (0) := (by omega)
    have hsl : ds_28_1 + PS ws ≤ PS ws + (0) := (by omega)
    refine W.widen (k := PC ws + (0)) (n := PS ws + (0)) (by omega) (by omega) ?_
    exact W.iret (v := (-1)) hx hb hr (fun t9 ht9 hW9 => ⟨⟨_, ws, rfl, trivial, ⟨gE.rf, gF.rf, hG, by rw [ht9]; exact hP, hD, _, _, by rw [ht9]; exact hLd, hcl, hsl⟩⟩, hS.F ht9⟩) hS.2.2 dX12_feed_29
  refine lv_icmp_gt (tgt := 28) hx hb dX12_feed_13 (by decide) (fun c_6 => ?_) (fun c_6 => ?_)
  · exact J_28 (0) (0) _ _ ls (by have e0 : (0 : Int32).toInt = 0 := (by decide); omega) (by have e0 : (0 : Int32).toInt = 0 := (by decide); omega) hP hD hS (lv_sub hl [] rfl)
  · refine lv_aload_n hx hb dX12_feed_16 rfl (lv_at hl 0 rfl) ?_
    refine va_get (D := gD g) (ci := 11) (v := .int c10_1) (C := RX12) (T := TX12) (N := 18) hx hb hts inX12 hown hK hP k_1 hk_1 rfl 10 (by decide) (hts _ kw_357) (fun _ h9 => h9) rfl dX12_feed_17 ?_
    refine lv_bipush (v := 20) hx hb dX12_feed_20 (by decide) ?_
    refine lv_iadd hx hb dX12_feed_22 ?_
    refine lv_topi (fun z_7 ez_7 => ?_)
    refine lv_ldc hx hb hown (hts _ kw_358) dX12_feed_23 ?_
    refine lv_icmp_le (tgt := 30) hx hb dX12_feed_25 (by decide) (fun c_8 => ?_) (fun c_8 => ?_)
    · refine lv_aload_n hx hb dX12_feed_30 rfl (lv_at hl 0 rfl) ?_
      refine va_get (D := gD g) (ci := 11) (v := .ref r0_1) (C := RX12) (T := TX12) (N := 18) hx hb hts inX12 hown hK hP k_1 hk_1 rfl 0 (by decide) (hts _ kw_349) (fun _ h9 => h9) rfl dX12_feed_31 ?_
      refine lv_iload_n hx hb dX12_feed_34 rfl (lv_at hl 1 rfl) ?_
      have hFc := gfree hD hS hA
      have pg_9 := ge_0_0 hD hk_2 rfl a_r0_2
      refine W_led (fun hL0 => ?_)
      refine va_callv (va_runV (As := [.int x1]) (rest := []) ⟨hx, hb, hml, hown, hts⟩ (m_X0_put4 l g s.heap ws r0_1 (x1) (c1_2) hG o_r0_1 (gP_of hD hk_2 (fun q90 e90 => by cases e90; exact (by have e20 : (20 : Int32).toInt = 20 := (by decide); have e16000 : (16000 : Int32).toInt = 16000 := (by decide); have q_f2_2 := f2_2; have q_f3_2 := f3_2; obtain ⟨u_z_3, q_z_3⟩ := i_add ez_3; have q_f1_2 := f1_2; have q_f4_2 := f4_2; have q_f5_2 := f5_2; have q_c_6 := i_nlt c_6; have g_c1_2 := i_rg c1_2; have g_z_3 := i_rg z_3; omega))) (gP_of hD hk_2 (fun q90 e90 => by cases e90; exact (by have e20 : (20 : Int32).toInt = 20 := (by decide); have e16000 : (16000 : Int32).toInt = 16000 := (by decide); have q_f2_2 := f2_2; have q_f3_2 := f3_2; obtain ⟨u_z_3, q_z_3⟩ := i_add ez_3; have q_f1_2 := f1_2; have q_f4_2 := f4_2; have q_f5_2 := f5_2; have q_c_6 := i_nlt c_6; have g_c1_2 := i_rg c1_2; have g_z_3 := i_rg z_3; omega)))) (cwV 1 hts (gd_V kw_359 kw_21 kw_22 kw_3 kw_20) rfl rfl rfl (by decide +kernel) ⟨Nat.le_of_ble_eq_true rfl, Nat.le_of_ble_eq_true rfl⟩) ⟨gblindH, va_recv hK hP (ci := 0) (q0 := k_2) rfl hk_2, fun U hU hW9 => gmkH hU hW9 hP hK hD hex hE hS hFc⟩ rfl rfl hl.1 rfl (lv_room (Nat.le_of_ble_eq_true rfl)) dX12_feed_35 ⟨(show 0 + (PC ws + (0)) ≤ PC ws + (0) from (by have e0 : (0 : Int32).toInt = 0 := (by decide); omega)), (show 0 + (PS ws + (0)) ≤ PS ws + (0) from (by have e0 : (0 : Int32).toInt = 0 := (by decide); omega))⟩) hS (fun q _ h => hFc q h) hFc (fun  ws_10 t9 H1 locs ht9 hvm9 hw9 hB9 hz9 hk9 hS => ?_)
      obtain ⟨E_11, Fr_12, hG, hP1, hD1, dc_13, ds_14, hLd, hdc_13, hds_14⟩ := hB9
      rw [ht9] at hLd
      refine W_tight (hL0.tr hLd).1 (hL0.tr hLd).2.1 ?_
      clear hL0 hLd
      have hP : va_P (gD g) cl0 ws_10 H1 := by rw [← ht9]; exact hP1
      have hD : va_D A ws_10 := hD1.weaken (fun _ _ _ h => hFc _ h)
      have kf_15 := hw9
      clear hP1 hD1 hz9 hk9 hvm9 ht9 hw9
      generalize H1 = H at hP hS ⊢
      have aa_16 := a_r3_1
      have aa_17 := a_r0_2
      have o_h0 := E_11.1 _ _ o_h0
      refine lv_aload_n hx hb dX12_feed_38 rfl (lv_at hl 0 rfl) ?_
      obtain ⟨fs9, hk_18, hq_18⟩ := ((gF.a (F' := [(0, 0), (0, 1)]) Fr_12 (fun _ h => h))) _ _ _ hk_1
      obtain ⟨r0_18, r1_18, r2_18, r3_18, n3_18, r4_18, r5_18, r6_18, r7_18, r8_18, r9_18, c10_18, c11_18, c12_18, c13_18, c14_18, c15_18, c16_18, c17_18, rfl, o_r0_18, o_r1_18, o_r2_18, a_r3_18, f4_18, o_r4_18, o_r5_18, o_r6_18, o_r7_18, o_r8_18, o_r9_18, f11_18, f12_18, f13_18, f14_18, f15_18, f16_18, f17_18, -⟩ := (hG.1 _ _ _ _ hk_18).hX12 rfl
      obtain rfl := fe_r (hq_18 0 (by decide))
      have o_r0_1 := o_r0_18
      obtain rfl := fe_i (hq_18 10 (by decide))
      refine va_get (D := gD g) (ci := 11) (v := .ref r0_1) (C := RX12) (T := TX12) (N := 18) hx hb hts inX12 hown hK hP k_1 hk_18 rfl 0 (by decide) (hts _ kw_349) (fun _ h9 => h9) rfl dX12_feed_39 ?_
      refine lv_iload_n hx hb dX12_feed_42 rfl (lv_at hl 2 rfl) ?_
      obtain ⟨fs9, hk_19, hq_19⟩ := ((gF.a (F' := [(0, 0), (0, 1)]) Fr_12 (fun _ h => h))) _ _ _ hk_2
      obtain ⟨r0_19, n0_19, c1_19, rfl, a_r0_19, f1_19, f2_19, f3_19, f4_19, f5_19, -⟩ := (hG.1 _ _ _ _ hk_19).hX0 rfl
      have kq_20 := kf_15 _ _ _ hk_19 _ rfl
      have hFc := gfree hD hS hA
      have pg_21 := ge_0_0 hD hk_19 rfl a_r0_19
      refine W_led (fun hL0 => ?_)
      refine va_callv (va_runV (As := [.int x2]) (rest := []) ⟨hx, hb, hml, hown, hts⟩ (m_X0_put4 l g H ws_10 r0_1 (x2) (c1_19) hG o_r0_1 (gP_of hD hk_19 (fun q90 e90 => by cases e90; exact (by have e20 : (20 : Int32).toInt = 20 := (by decide); have e16000 : (16000 : Int32).toInt = 16000 := (by decide); have q_f2_19 := f2_19; have q_f3_19 := f3_19; have q_kq_20 := kq_20; have q_f2_2 := f2_2; have q_f3_2 := f3_2; obtain ⟨u_z_3, q_z_3⟩ := i_add ez_3; have q_f1_19 := f1_19; have q_f4_19 := f4_19; have q_f5_19 := f5_19; have q_f1_2 := f1_2; have q_f4_2 := f4_2; have q_f5_2 := f5_2; have q_c_6 := i_nlt c_6; have g_c1_19 := i_rg c1_19; have g_c1_2 := i_rg c1_2; have g_z_3 := i_rg z_3; omega))) (gP_of hD hk_19 (fun q90 e90 => by cases e90; exact (by have e20 : (20 : Int32).toInt = 20 := (by decide); have e16000 : (16000 : Int32).toInt = 16000 := (by decide); have q_f2_19 := f2_19; have q_f3_19 := f3_19; have q_kq_20 := kq_20; have q_f2_2 := f2_2; have q_f3_2 := f3_2; obtain ⟨u_z_3, q_z_3⟩ := i_add ez_3; have q_f1_19 := f1_19; have q_f4_19 := f4_19; have q_f5_19 := f5_19; have q_f1_2 := f1_2; have q_f4_2 := f4_2; have q_f5_2 := f5_2; have q_c_6 := i_nlt c_6; have g_c1_19 := i_rg c1_19; have g_c1_2 := i_rg c1_2; have g_z_3 := i_rg z_3; omega)))) (cwV 1 hts (gd_V kw_359 kw_21 kw_22 kw_3 kw_20) rfl rfl rfl (by decide +kernel) ⟨Nat.le_of_ble_eq_true rfl, Nat.le_of_ble_eq_true rfl⟩) ⟨gblindH, va_recv hK hP (ci := 0) (q0 := k_2) rfl hk_19, fun U hU hW9 => gmkH hU hW9 hP hK hD hex hE hS hFc⟩ rfl rfl hl.1 rfl (lv_room (Nat.le_of_ble_eq_true rfl)) dX12_feed_43 ⟨(show 0 + dc_13 + (PC ws_10 + (0)) ≤ PC ws + (0) from (by have e0 : (0 : Int32).toInt = 0 := (by decide); omega)), (show 0 + ds_14 + (PS ws_10 + (0)) ≤ PS ws + (0) from (by have e0 : (0 : Int32).toInt = 0 := (by decide); omega))⟩) hS (fun q _ h => hFc q h) hFc (fun  ws_22 t9 H1 locs ht9 hvm9 hw9 hB9 hz9 hk9 hS => ?_)
      obtain ⟨E_23, Fr_24, hG, hP1, hD1, dc_25, ds_26, hLd, hdc_25, hds_26⟩ := hB9
      rw [ht9] at hLd
      refine W_tight (hL0.tr hLd).1 (hL0.tr hLd).2.1 ?_
      clear hL0 hLd
      have hP : va_P (gD g) cl0 ws_22 H1 := by rw [← ht9]; exact hP1
      have hD : va_D A ws_22 := hD1.weaken (fun _ _ _ h => hFc _ h)
      have kf_27 := hw9
      clear hP1 hD1 hz9 hk9 hvm9 ht9 hw9
      generalize H1 = H at hP hS ⊢
      have aa_28 := a_r3_18
      have aa_29 := a_r0_19
      have o_h0 := E_23.1 _ _ o_h0
      refine lv_aload_n hx hb dX12_feed_46 rfl (lv_at hl 0 rfl) ?_
      obtain ⟨fs9, hk_30, hq_30⟩ := ((gF.a (F' := [(0, 0), (0, 1)]) Fr_24 (fun _ h => h))) _ _ _ hk_18
      obtain ⟨r0_30, r1_30, r2_30, r3_30, n3_30, r4_30, r5_30, r6_30, r7_30, r8_30, r9_30, c10_30, c11_30, c12_30, c13_30, c14_30, c15_30, c16_30, c17_30, rfl, o_r0_30, o_r1_30, o_r2_30, a_r3_30, f4_30, o_r4_30, o_r5_30, o_r6_30, o_r7_30, o_r8_30, o_r9_30, f11_30, f12_30, f13_30, f14_30, f15_30, f16_30, f17_30, -⟩ := (hG.1 _ _ _ _ hk_30).hX12 rfl
      obtain rfl := fe_r (hq_30 0 (by decide))
      have o_r0_1 := o_r0_30
      obtain rfl := fe_i (hq_30 10 (by decide))
      refine va_get (D := gD g) (ci := 11) (v := .ref r0_1) (C := RX12) (T := TX12) (N := 18) hx hb hts inX12 hown hK hP k_1 hk_30 rfl 0 (by decide) (hts _ kw_349) (fun _ h9 => h9) rfl dX12_feed_47 ?_
      refine lv_iload_n hx hb dX12_feed_50 rfl (lv_at hl 3 rfl) ?_
      obtain ⟨fs9, hk_31, hq_31⟩ := ((gF.a (F' := [(0, 0), (0, 1)]) Fr_24 (fun _ h => h))) _ _ _ hk_19
      obtain ⟨r0_31, n0_31, c1_31, rfl, a_r0_31, f1_31, f2_31, f3_31, f4_31, f5_31, -⟩ := (hG.1 _ _ _ _ hk_31).hX0 rfl
      have kq_32 := kf_27 _ _ _ hk_31 _ rfl
      have hFc := gfree hD hS hA
      have pg_33 := ge_0_0 hD hk_31 rfl a_r0_31
      refine W_led (fun hL0 => ?_)
      refine va_callv (va_runV (As := [.int x3]) (rest := []) ⟨hx, hb, hml, hown, hts⟩ (m_X0_put4 l g H ws_22 r0_1 (x3) (c1_31) hG o_r0_1 (gP_of hD hk_31 (fun q90 e90 => by cases e90; exact (by have e20 : (20 : Int32).toInt = 20 := (by decide); have e16000 : (16000 : Int32).toInt = 16000 := (by decide); have q_f2_31 := f2_31; have q_f3_31 := f3_31; have q_kq_32 := kq_32; have q_f2_19 := f2_19; have q_f3_19 := f3_19; have q_kq_20 := kq_20; have q_f1_31 := f1_31; have q_f4_31 := f4_31; have q_f5_31 := f5_31; have q_f2_2 := f2_2; have q_f3_2 := f3_2; obtain ⟨u_z_3, q_z_3⟩ := i_add ez_3; have q_f1_19 := f1_19; have q_f4_19 := f4_19; have q_f5_19 := f5_19; have q_f1_2 := f1_2; have q_f4_2 := f4_2; have q_f5_2 := f5_2; have q_c_6 := i_nlt c_6; have g_c1_19 := i_rg c1_19; have g_c1_2 := i_rg c1_2; have g_c1_31 := i_rg c1_31; have g_z_3 := i_rg z_3; omega))) (gP_of hD hk_31 (fun q90 e90 => by cases e90; exact (by have e20 : (20 : Int32).toInt = 20 := (by decide); have e16000 : (16000 : Int32).toInt = 16000 := (by decide); have q_f2_31 := f2_31; have q_f3_31 := f3_31; have q_kq_32 := kq_32; have q_f2_19 := f2_19; have q_f3_19 := f3_19; have q_kq_20 := kq_20; have q_f1_31 := f1_31; have q_f4_31 := f4_31; have q_f5_31 := f5_31; have q_f2_2 := f2_2; have q_f3_2 := f3_2; obtain ⟨u_z_3, q_z_3⟩ := i_add ez_3; have q_f1_19 := f1_19; have q_f4_19 := f4_19; have q_f5_19 := f5_19; have q_f1_2 := f1_2; have q_f4_2 := f4_2; have q_f5_2 := f5_2; have q_c_6 := i_nlt c_6; have g_c1_19 := i_rg c1_19; have g_c1_2 := i_rg c1_2; have g_c1_31 := i_rg c1_31; have g_z_3 := i_rg z_3; omega)))) (cwV 1 hts (gd_V kw_359 kw_21 kw_22 kw_3 kw_20) rfl rfl rfl (by decide +kernel) ⟨Nat.le_of_ble_eq_true rfl, Nat.le_of_ble_eq_true rfl⟩) ⟨gblindH, va_recv hK hP (ci := 0) (q0 := k_2) rfl hk_31, fun U hU hW9 => gmkH hU hW9 hP hK hD hex hE hS hFc⟩ rfl rfl hl.1 rfl (lv_room (Nat.le_of_ble_eq_true rfl)) dX12_feed_51 ⟨(show 0 + dc_13 + dc_25 + (PC ws_22 + (0)) ≤ PC ws + (0) from (by have e0 : (0 : Int32).toInt = 0 := (by decide); omega)), (show 0 + ds_14 + ds_26 + (PS ws_22 + (0)) ≤ PS ws + (0) from (by have e0 : (0 : Int32).toInt = 0 := (by decide); omega))⟩) hS (fun q _ h => hFc q h) hFc (fun  ws_34 t9 H1 locs ht9 hvm9 hw9 hB9 hz9 hk9 hS => ?_)
      obtain ⟨E_35, Fr_36, hG, hP1, hD1, dc_37, ds_38, hLd, hdc_37, hds_38⟩ := hB9
      rw [ht9] at hLd
      refine W_tight (hL0.tr hLd).1 (hL0.tr hLd).2.1 ?_
      clear hL0 hLd
      have hP : va_P (gD g) cl0 ws_34 H1 := by rw [← ht9]; exact hP1
      have hD : va_D A ws_34 := hD1.weaken (fun _ _ _ h => hFc _ h)
      have kf_39 := hw9
      clear hP1 hD1 hz9 hk9 hvm9 ht9 hw9
      generalize H1 = H at hP hS ⊢
      have aa_40 := a_r3_30
      have aa_41 := a_r0_31
      have o_h0 := E_35.1 _ _ o_h0
      refine lv_aload_n hx hb dX12_feed_54 rfl (lv_at hl 0 rfl) ?_
      obtain ⟨fs9, hk_42, hq_42⟩ := ((gF.a (F' := [(0, 0), (0, 1)]) Fr_36 (fun _ h => h))) _ _ _ hk_30
      obtain ⟨r0_42, r1_42, r2_42, r3_42, n3_42, r4_42, r5_42, r6_42, r7_42, r8_42, r9_42, c10_42, c11_42, c12_42, c13_42, c14_42, c15_42, c16_42, c17_42, rfl, o_r0_42, o_r1_42, o_r2_42, a_r3_42, f4_42, o_r4_42, o_r5_42, o_r6_42, o_r7_42, o_r8_42, o_r9_42, f11_42, f12_42, f13_42, f14_42, f15_42, f16_42, f17_42, -⟩ := (hG.1 _ _ _ _ hk_42).hX12 rfl
      obtain rfl := fe_r (hq_42 0 (by decide))
      have o_r0_1 := o_r0_42
      obtain rfl := fe_i (hq_42 10 (by decide))
      refine va_get (D := gD g) (ci := 11) (v := .ref r0_1) (C := RX12) (T := TX12) (N := 18) hx hb hts inX12 hown hK hP k_1 hk_42 rfl 0 (by decide) (hts _ kw_349) (fun _ h9 => h9) rfl dX12_feed_55 ?_
      refine lv_iload hx hb dX12_feed_58 (lv_at hl 4 rfl) ?_
      obtain ⟨fs9, hk_43, hq_43⟩ := ((gF.a (F' := [(0, 0), (0, 1)]) Fr_36 (fun _ h => h))) _ _ _ hk_31
      obtain ⟨r0_43, n0_43, c1_43, rfl, a_r0_43, f1_43, f2_43, f3_43, f4_43, f5_43, -⟩ := (hG.1 _ _ _ _ hk_43).hX0 rfl
      have kq_44 := kf_39 _ _ _ hk_43 _ rfl
      have hFc := gfree hD hS hA
      have pg_45 := ge_0_0 hD hk_43 rfl a_r0_43
      refine W_led (fun hL0 => ?_)
      refine va_callv (va_runV (As := [.int x4]) (rest := []) ⟨hx, hb, hml, hown, hts⟩ (m_X0_put4 l g H ws_34 r0_1 (x4) (c1_43) hG o_r0_1 (gP_of hD hk_43 (fun q90 e90 => by cases e90; exact (by have e20 : (20 : Int32).toInt = 20 := (by decide); have e16000 : (16000 : Int32).toInt = 16000 := (by decide); have q_f2_43 := f2_43; have q_f3_43 := f3_43; have q_kq_44 := kq_44; have q_f2_31 := f2_31; have q_f3_31 := f3_31; have q_kq_32 := kq_32; have q_f1_43 := f1_43; have q_f4_43 := f4_43; have q_f5_43 := f5_43; have q_f2_19 := f2_19; have q_f3_19 := f3_19; have q_kq_20 := kq_20; have q_f1_31 := f1_31; have q_f4_31 := f4_31; have q_f5_31 := f5_31; have q_f2_2 := f2_2; have q_f3_2 := f3_2; obtain ⟨u_z_3, q_z_3⟩ := i_add ez_3; have q_f1_19 := f1_19; have q_f4_19 := f4_19; have q_f5_19 := f5_19; have q_f1_2 := f1_2; have q_f4_2 := f4_2; have q_f5_2 := f5_2; have q_c_6 := i_nlt c_6; have g_c1_19 := i_rg c1_19; have g_c1_2 := i_rg c1_2; have g_c1_31 := i_rg c1_31; have g_c1_43 := i_rg c1_43; have g_z_3 := i_rg z_3; omega))) (gP_of hD hk_43 (fun q90 e90 => by cases e90; exact (by have e20 : (20 : Int32).toInt = 20 := (by decide); have e16000 : (16000 : Int32).toInt = 16000 := (by decide); have q_f2_43 := f2_43; have q_f3_43 := f3_43; have q_kq_44 := kq_44; have q_f2_31 := f2_31; have q_f3_31 := f3_31; have q_kq_32 := kq_32; have q_f1_43 := f1_43; have q_f4_43 := f4_43; have q_f5_43 := f5_43; have q_f2_19 := f2_19; have q_f3_19 := f3_19; have q_kq_20 := kq_20; have q_f1_31 := f1_31; have q_f4_31 := f4_31; have q_f5_31 := f5_31; have q_f2_2 := f2_2; have q_f3_2 := f3_2; obtain ⟨u_z_3, q_z_3⟩ := i_add ez_3; have q_f1_19 := f1_19; have q_f4_19 := f4_19; have q_f5_19 := f5_19; have q_f1_2 := f1_2; have q_f4_2 := f4_2; have q_f5_2 := f5_2; have q_c_6 := i_nlt c_6; have g_c1_19 := i_rg c1_19; have g_c1_2 := i_rg c1_2; have g_c1_31 := i_rg c1_31; have g_c1_43 := i_rg c1_43; have g_z_3 := i_rg z_3; omega)))) (cwV 1 hts (gd_V kw_359 kw_21 kw_22 kw_3 kw_20) rfl rfl rfl (by decide +kernel) ⟨Nat.le_of_ble_eq_true rfl, Nat.le_of_ble_eq_true rfl⟩) ⟨gblindH, va_recv hK hP (ci := 0) (q0 := k_2) rfl hk_43, fun U hU hW9 => gmkH hU hW9 hP hK hD hex hE hS hFc⟩ rfl rfl hl.1 rfl (lv_room (Nat.le_of_ble_eq_true rfl)) dX12_feed_60 ⟨(show 0 + dc_13 + dc_25 + dc_37 + (PC ws_34 + (0)) ≤ PC ws + (0) from (by have e0 : (0 : Int32).toInt = 0 := (by decide); omega)), (show 0 + ds_14 + ds_26 + ds_38 + (PS ws_34 + (0)) ≤ PS ws + (0) from (by have e0 : (0 : Int32).toInt = 0 := (by decide); omega))⟩) hS (fun q _ h => hFc q h) hFc (fun  ws_46 t9 H1 locs ht9 hvm9 hw9 hB9 hz9 hk9 hS => ?_)
      obtain ⟨E_47, Fr_48, hG, hP1, hD1, dc_49, ds_50, hLd, hdc_49, hds_50⟩ := hB9
      rw [ht9] at hLd
      refine W_tight (hL0.tr hLd).1 (hL0.tr hLd).2.1 ?_
      clear hL0 hLd
      have hP : va_P (gD g) cl0 ws_46 H1 := by rw [← ht9]; exact hP1
      have hD : va_D A ws_46 := hD1.weaken (fun _ _ _ h => hFc _ h)
      have kf_51 := hw9
      clear hP1 hD1 hz9 hk9 hvm9 ht9 hw9
      generalize H1 = H at hP hS ⊢
      have aa_52 := a_r3_42
      have aa_53 := a_r0_43
      have o_h0 := E_47.1 _ _ o_h0
      refine lv_aload_n hx hb dX12_feed_63 rfl (lv_at hl 0 rfl) ?_
      obtain ⟨fs9, hk_54, hq_54⟩ := ((gF.a (F' := [(0, 0), (0, 1)]) Fr_48 (fun _ h => h))) _ _ _ hk_42
      obtain ⟨r0_54, r1_54, r2_54, r3_54, n3_54, r4_54, r5_54, r6_54, r7_54, r8_54, r9_54, c10_54, c11_54, c12_54, c13_54, c14_54, c15_54, c16_54, c17_54, rfl, o_r0_54, o_r1_54, o_r2_54, a_r3_54, f4_54, o_r4_54, o_r5_54, o_r6_54, o_r7_54, o_r8_54, o_r9_54, f11_54, f12_54, f13_54, f14_54, f15_54, f16_54, f17_54, -⟩ := (hG.1 _ _ _ _ hk_54).hX12 rfl
      obtain rfl := fe_r (hq_54 0 (by decide))
      have o_r0_1 := o_r0_54
      obtain rfl := fe_i (hq_54 10 (by decide))
      refine va_get (D := gD g) (ci := 11) (v := .ref r0_1) (C := RX12) (T := TX12) (N := 18) hx hb hts inX12 hown hK hP k_1 hk_54 rfl 0 (by decide) (hts _ kw_349) (fun _ h9 => h9) rfl dX12_feed_64 ?_
      refine lv_iload hx hb dX12_feed_67 (lv_at hl 5 rfl) ?_
      obtain ⟨fs9, hk_55, hq_55⟩ := ((gF.a (F' := [(0, 0), (0, 1)]) Fr_48 (fun _ h => h))) _ _ _ hk_43
      obtain ⟨r0_55, n0_55, c1_55, rfl, a_r0_55, f1_55, f2_55, f3_55, f4_55, f5_55, -⟩ := (hG.1 _ _ _ _ hk_55).hX0 rfl
      have kq_56 := kf_51 _ _ _ hk_55 _ rfl
      have hFc := gfree hD hS hA
      have pg_57 := ge_0_0 hD hk_55 rfl a_r0_55
      refine W_led (fun hL0 => ?_)
      refine va_callv (va_runV (As := [.int x5]) (rest := []) ⟨hx, hb, hml, hown, hts⟩ (m_X0_put4 l g H ws_46 r0_1 (x5) (c1_55) hG o_r0_1 (gP_of hD hk_55 (fun q90 e90 => by cases e90; exact (by have e20 : (20 : Int32).toInt = 20 := (by decide); have e16000 : (16000 : Int32).toInt = 16000 := (by decide); have q_f2_55 := f2_55; have q_f3_55 := f3_55; have q_kq_56 := kq_56; have q_f2_43 := f2_43; have q_f3_43 := f3_43; have q_kq_44 := kq_44; have q_f1_55 := f1_55; have q_f4_55 := f4_55; have q_f5_55 := f5_55; have q_f2_31 := f2_31; have q_f3_31 := f3_31; have q_kq_32 := kq_32; have q_f1_43 := f1_43; have q_f4_43 := f4_43; have q_f5_43 := f5_43; have q_f2_19 := f2_19; have q_f3_19 := f3_19; have q_kq_20 := kq_20; have q_f1_31 := f1_31; have q_f4_31 := f4_31; have q_f5_31 := f5_31; have q_f2_2 := f2_2; have q_f3_2 := f3_2; obtain ⟨u_z_3, q_z_3⟩ := i_add ez_3; have q_f1_19 := f1_19; have q_f4_19 := f4_19; have q_f5_19 := f5_19; have q_f1_2 := f1_2; have q_f4_2 := f4_2; have q_f5_2 := f5_2; have q_c_6 := i_nlt c_6; have g_c1_19 := i_rg c1_19; have g_c1_2 := i_rg c1_2; have g_c1_31 := i_rg c1_31; have g_c1_43 := i_rg c1_43; have g_c1_55 := i_rg c1_55; have g_z_3 := i_rg z_3; omega))) (gP_of hD hk_55 (fun q90 e90 => by cases e90; exact (by have e20 : (20 : Int32).toInt = 20 := (by decide); have e16000 : (16000 : Int32).toInt = 16000 := (by decide); have q_f2_55 := f2_55; have q_f3_55 := f3_55; have q_kq_56 := kq_56; have q_f2_43 := f2_43; have q_f3_43 := f3_43; have q_kq_44 := kq_44; have q_f1_55 := f1_55; have q_f4_55 := f4_55; have q_f5_55 := f5_55; have q_f2_31 := f2_31; have q_f3_31 := f3_31; have q_kq_32 := kq_32; have q_f1_43 := f1_43; have q_f4_43 := f4_43; have q_f5_43 := f5_43; have q_f2_19 := f2_19; have q_f3_19 := f3_19; have q_kq_20 := kq_20; have q_f1_31 := f1_31; have q_f4_31 := f4_31; have q_f5_31 := f5_31; have q_f2_2 := f2_2; have q_f3_2 := f3_2; obtain ⟨u_z_3, q_z_3⟩ := i_add ez_3; have q_f1_19 := f1_19; have q_f4_19 := f4_19; have q_f5_19 := f5_19; have q_f1_2 := f1_2; have q_f4_2 := f4_2; have q_f5_2 := f5_2; have q_c_6 := i_nlt c_6; have g_c1_19 := i_rg c1_19; have g_c1_2 := i_rg c1_2; have g_c1_31 := i_rg c1_31; have g_c1_43 := i_rg c1_43; have g_c1_55 := i_rg c1_55; have g_z_3 := i_rg z_3; omega)))) (cwV 1 hts (gd_V kw_359 kw_21 kw_22 kw_3 kw_20) rfl rfl rfl (by decide +kernel) ⟨Nat.le_of_ble_eq_true rfl, Nat.le_of_ble_eq_true rfl⟩) ⟨gblindH, va_recv hK hP (ci := 0) (q0 := k_2) rfl hk_55, fun U hU hW9 => gmkH hU hW9 hP hK hD hex hE hS hFc⟩ rfl rfl hl.1 rfl (lv_room (Nat.le_of_ble_eq_true rfl)) dX12_feed_69 ⟨(show 0 + dc_13 + dc_25 + dc_37 + dc_49 + (PC ws_46 + (0)) ≤ PC ws + (0) from (by have e0 : (0 : Int32).toInt = 0 := (by decide); omega)), (show 0 + ds_14 + ds_26 + ds_38 + ds_50 + (PS ws_46 + (0)) ≤ PS ws + (0) from (by have e0 : (0 : Int32).toInt = 0 := (by decide); omega))⟩) hS (fun q _ h => hFc q h) hFc (fun  ws_58 t9 H1 locs ht9 hvm9 hw9 hB9 hz9 hk9 hS => ?_)
      obtain ⟨E_59, Fr_60, hG, hP1, hD1, dc_61, ds_62, hLd, hdc_61, hds_62⟩ := hB9
      rw [ht9] at hLd
      refine W_tight (hL0.tr hLd).1 (hL0.tr hLd).2.1 ?_
      clear hL0 hLd
      have hP : va_P (gD g) cl0 ws_58 H1 := by rw [← ht9]; exact hP1
      have hD : va_D A ws_58 := hD1.weaken (fun _ _ _ h => hFc _ h)
      have kf_63 := hw9
      clear hP1 hD1 hz9 hk9 hvm9 ht9 hw9
      generalize H1 = H at hP hS ⊢
      have aa_64 := a_r3_54
      have aa_65 := a_r0_55
      have o_h0 := E_59.1 _ _ o_h0
      refine lv_aload_n hx hb dX12_feed_72 rfl (lv_at hl 0 rfl) ?_
      refine lv_dup hx hb dX12_feed_73 rfl ?_
      obtain ⟨fs9, hk_66, hq_66⟩ := ((gF.a (F' := [(0, 0), (0, 1)]) Fr_60 (fun _ h => h))) _ _ _ hk_54
      obtain ⟨r0_66, r1_66, r2_66, r3_66, n3_66, r4_66, r5_66, r6_66, r7_66, r8_66, r9_66, c10_66, c11_66, c12_66, c13_66, c14_66, c15_66, c16_66, c17_66, rfl, o_r0_66, o_r1_66, o_r2_66, a_r3_66, f4_66, o_r4_66, o_r5_66, o_r6_66, o_r7_66, o_r8_66, o_r9_66, f11_66, f12_66, f13_66, f14_66, f15_66, f16_66, f17_66, -⟩ := (hG.1 _ _ _ _ hk_66).hX12 rfl
      obtain rfl := fe_r (hq_66 0 (by decide))
      have o_r0_1 := o_r0_66
      obtain rfl := fe_i (hq_66 10 (by decide))
      refine va_get (D := gD g) (ci := 11) (v := .int c10_1) (C := RX12) (T := TX12) (N := 18) hx hb hts inX12 hown hK hP k_1 hk_66 rfl 10 (by decide) (hts _ kw_357) (fun _ h9 => h9) rfl dX12_feed_74 ?_
      refine lv_bipush (v := 20) hx hb dX12_feed_77 (by decide) ?_
      refine lv_iadd hx hb dX12_feed_79 ?_
      refine lv_topi (fun z_67 ez_67 => ?_)
      have hV9 : okv ws_58 11 10 (.int z_67) := okv_i
      refine va_put (D := gD g) (ci := 11) (v := .int z_67) (ty := .int) (C := RX12) (T := TX12) (N := 18) hx hb hts inX12 tyX12 tyX12_ok nmX12 hown hK hP hD hS k_1 hk_66 rfl 10 (by decide) (hts _ kw_357) (fun _ h9 => h9) rfl (by decide +kernel) rfl rfl (Nat.le_of_ble_eq_true rfl) dX12_feed_80 (fun H locs hP hD hS => ?_)
      have f_68 : 0 ≤ z_67.toInt := (by have e20 : (20 : Int32).toInt = 20 := (by decide); have e65536 : (65536 : Int32).toInt = 65536 := (by decide); obtain ⟨u_z_67, q_z_67⟩ := i_add ez_67; have q_f16_1 := f16_1; have q_f17_1 := f17_1; obtain ⟨u_z_7, q_z_7⟩ := i_add ez_7; have q_c_8 := i_le c_8; have g_c10_1 := i_rg c10_1; have g_z_67 := i_rg z_67; have g_z_7 := i_rg z_7; omega)
      have f_69 : z_67.toInt ≤ 65536 := (by have e20 : (20 : Int32).toInt = 20 := (by decide); have e65536 : (65536 : Int32).toInt = 65536 := (by decide); obtain ⟨u_z_67, q_z_67⟩ := i_add ez_67; have q_f_68 := f_68; have q_f16_1 := f16_1; have q_f17_1 := f17_1; obtain ⟨u_z_7, q_z_7⟩ := i_add ez_7; have q_c_8 := i_le c_8; have g_c10_1 := i_rg c10_1; have g_z_67 := i_rg z_67; have g_z_7 := i_rg z_7; omega)
      have hi_70 : invX12 g ws_58 h0 [.ref r0_1, .ref r1_66, .ref r2_66, .ref r3_66, .ref r4_66, .ref r5_66, .ref r6_66, .ref r7_66, .ref r8_66, .ref r9_66, .int z_67, .int c11_66, .int c12_66, .int c13_66, .int c14_66, .int c15_66, .int c16_66, .int c17_66] := ⟨r0_1, r1_66, r2_66, r3_66, (n3_66), r4_66, r5_66, r6_66, r7_66, r8_66, r9_66, (z_67), (c11_66), (c12_66), (c13_66), (c14_66), (c15_66), (c16_66), (c17_66), rfl, o_r0_1, o_r1_66, o_r2_66, a_r3_66, f4_66, o_r4_66, o_r5_66, o_r6_66, o_r7_66, o_r8_66, o_r9_66, f11_66, f12_66, f13_66, f14_66, f15_66, f_68, f_69, trivial⟩
      obtain ⟨ws_71, e_ws_71⟩ : ∃ z, z = ws_58.set k_1 (h0, .inr (11, [.ref r0_1, .ref r1_66, .ref r2_66, .ref r3_66, .ref r4_66, .ref r5_66, .ref r6_66, .ref r7_66, .ref r8_66, .ref r9_66, .int z_67, .int c11_66, .int c12_66, .int c13_66, .int c14_66, .int c15_66, .int c16_66, .int c17_66])) := ⟨_, rfl⟩
      have hP : va_P (gD g) cl0 ws_71 H := by rw [e_ws_71]; exact hP
      have hD : va_D A ws_71 := by rw [e_ws_71]; exact hD
      have E_72 : gE ws_58 ws_71 := gE_set e_ws_71 hk_66 (cw_o (fi := 10) (v := .int z_67) rfl (by decide))
      have hG : Good g ws_71 := Good_set (fi := 10) (v := .int z_67) e_ws_71 hk_66 E_72 rfl hV9 hG (ivX12 hi_70)
      have Fr_73 : gF [(11, 10)] [] (some h0) ws_58 ws_71 := gF_put (fi := 10) (v := .int z_67) e_ws_71 hk_66 rfl (by decide)
      have pp_74 := Fr_73.pp
      have hkN := gset_self e_ws_71 hk_66
      have hk_66 := hkN
      have o_h0 := E_72.1 _ _ o_h0
      have o_r1_66 := E_72.1 _ _ o_r1_66
      have o_r2_66 := E_72.1 _ _ o_r2_66
      have a_r3_66 := E_72.1 _ _ a_r3_66
      have o_r4_66 := E_72.1 _ _ o_r4_66
      have o_r5_66 := E_72.1 _ _ o_r5_66
      have o_r6_66 := E_72.1 _ _ o_r6_66
      have o_r7_66 := E_72.1 _ _ o_r7_66
      have o_r8_66 := E_72.1 _ _ o_r8_66
      have o_r9_66 := E_72.1 _ _ o_r9_66
      have o_r0_1 := E_72.1 _ _ o_r0_1
      refine lv_aload_n hx hb dX12_feed_83 rfl (lv_at hl 0 rfl) ?_
      refine va_get (D := gD g) (ci := 11) (v := .ref r0_1) (C := RX12) (T := TX12) (N := 18) hx hb hts inX12 hown hK hP k_1 hk_66 rfl 0 (by decide) (hts _ kw_349) (fun _ h9 => h9) rfl dX12_feed_84 ?_
      obtain ⟨fs9, hk_75, hq_75⟩ := ((gA.tr (gF.a (F' := [(0, 0), (0, 1), (11, 10)]) Fr_60 (by decide)) (gF.a (F' := [(0, 0), (0, 1), (11, 10)]) Fr_73 (by decide)))) _ _ _ hk_55
      obtain ⟨r0_75, n0_75, c1_75, rfl, a_r0_75, f1_75, f2_75, f3_75, f4_75, f5_75, -⟩ := (hG.1 _ _ _ _ hk_75).hX0 rfl
      refine va_get (D := gD g) (ci := 0) (v := .int c1_75) (C := RX0) (T := TX0) (N := 2) hx hb hts inX0 hown hK hP k_2 hk_75 rfl 1 (by decide) (hts _ kw_311) (fun _ h9 => h9) rfl dX12_feed_87 ?_
      refine W_led (fun hLd => ?_)
      have hcl : 0 + dc_13 + dc_25 + dc_37 + dc_49 + dc_61 + PC ws_71 ≤ PC ws + (0) := (by omega)
      have hsl : 0 + ds_14 + ds_26 + ds_38 + ds_50 + ds_62 + PS ws_71 ≤ PS ws + (0) := (by omega)
      refine W.widen (k := PC ws + (0)) (n := PS ws + (0)) (by omega) (by omega) ?_
      exact W.iret (v := c1_75) hx hb hr (fun t9 ht9 hW9 => ⟨⟨_, ws_71, rfl, trivial, ⟨(E_11.tr (E_23.tr (E_35.tr (E_47.tr (E_59.tr E_72))))), (gF.tr (gF.mo (F' := [(0, 0), (0, 1), (11, 10)]) (C' := [(0, 0), (6, 0)]) (S' := none) Fr_12 (by decide) (fun _ h => h) (Or.inl rfl)) (gF.tr (gF.mo (F' := [(0, 0), (0, 1), (11, 10)]) (C' := [(0, 0), (6, 0)]) (S' := none) Fr_24 (by decide) (fun _ h => h) (Or.inl rfl)) (gF.tr (gF.mo (F' := [(0, 0), (0, 1), (11, 10)]) (C' := [(0, 0), (6, 0)]) (S' := none) Fr_36 (by decide) (fun _ h => h) (Or.inl rfl)) (gF.tr (gF.mo (F' := [(0, 0), (0, 1), (11, 10)]) (C' := [(0, 0), (6, 0)]) (S' := none) Fr_48 (by decide) (fun _ h => h) (Or.inl rfl)) (gF.tr (gF.mo (F' := [(0, 0), (0, 1), (11, 10)]) (C' := [(0, 0), (6, 0)]) (S' := none) Fr_60 (by decide) (fun _ h => h) (Or.inl rfl)) (gF.mo (F' := [(0, 0), (0, 1), (11, 10)]) (C' := [(0, 0), (6, 0)]) (S' := none) Fr_73 (by decide) (fun _ h => absurd h List.not_mem_nil) (Or.inl rfl))))))), hG, by rw [ht9]; exact hP, hD, _, _, by rw [ht9]; exact hLd, hcl, hsl⟩⟩, hS.F ht9⟩) hS.2.2 dX12_feed_90
    · exact J_28 (0) (0) _ _ ls (by have e0 : (0 : Int32).toInt = 0 := (by decide); omega) (by have e0 : (0 : Int32).toInt = 0 := (by decide); omega) hP hD hS (lv_sub hl [] rfl)
set_option maxHeartbeats 1000000 in
set_option maxRecDepth 100000 in
theorem m_X12_end (l : Launch) (g : Gm) (sz : Nat) (ws : va_W) (h0 : Nat) (x1 : Int32) (hG : Good g ws) (o_h0 : gC ws h0 11) : Met l yX12_end (wt yX12_end cX12_end 2 (some .boolean)) ({ frames := 0, cells := 0, slots := 0, locals := 0 }) (va_Pc [.ref h0, .int x1] (st_G g sz ws)) (va_Qi (fun (r : Int32) (u9 : va_W) => r = 0 ∨ r = 1) (gQ1 g [(0, 1)] [] none (va_A ws sz) ws) (va_A ws sz)) (0) (0) (va_A ws sz) := by
  refine Met.ofW (cc := cX12_end) (maxL := 2) (ret := (some .boolean)) (by decide) rfl ?_
  intro p e s m args below meth c s₁ B hml hv
  obtain ⟨rfl, hsz, hP, hK, hD0, hex, hE⟩ := hv
  have hx := B.exec
  have hb := B.bytes
  have hr := B.returns
  have hts0 := atoms_spec (ws := wt yX12_end cX12_end 2 (some .boolean)) B.pre
  have hts : ∀ w ∈ tb, w.before _ s = true := fun w h => hts0 w (List.mem_cons_of_mem _ h)
  have hown : s.vm.findClass RX12 = some m.cls := findClass_of_methodNamed B.named
  subst hsz
  have hD := hD0.self (sz := s.heap.size)
  generalize hAe : va_A ws s.heap.size = A at hD hE ⊢
  have hA : ∀ q : Nat, s.heap.size ≤ q → A q := fun q h => by rw [← hAe]; exact Or.inr h
  have hS : va_S A s.heap s.heap [] := va_S.rf
  have hl := lv_entry ([.ref h0, .int x1]) (n := 2) (Nat.le_of_ble_eq_true rfl)
  rw [lg_entry_eq]
  generalize (lg_sl ([.ref h0, .int x1]) ++ List.replicate (2 - (lg_sl ([.ref h0, .int x1])).length) Slot.unset).toArray = ls at hl ⊢
  have hl : lv_has ls 2 [(0, .ref h0), (1, .int x1)] := hl
  refine lv_iload_n hx hb dX12_end_0 rfl (lv_at hl 1 rfl) ?_
  have J_15 : ∀  (H : Heap) (locs : List Loc) (ls : Array Slot), va_P (gD g) cl0 ws H → va_D A ws → va_S A s.heap H locs → lv_has ls 2 [] → W p l e (headSpec (wt yX12_end cX12_end 2 (some .boolean)) ({ frames := 0, cells := 0, slots := 0, locals := 0 })).room s m ([.ref h0, .int x1] : List Value).toArray below meth c H locs (0) (0) (MQ below (va_Qi (fun (r : Int32) (u9 : va_W) => r = 0 ∨ r = 1) (gQ1 g [(0, 1)] [] none A ws) A) ([.ref h0, .int x1] : List Value).toArray s (0) (0) A) (F0 m 15 ls []) := by
    intro  H locs ls  hP hD hS hl
    refine lv_iconst (v := 0) hx hb dX12_end_15 (by decide) ?_
    refine W.widen (k := 0) (n := 0) (Nat.le_of_ble_eq_true rfl) (Nat.le_of_ble_eq_true rfl) ?_
    exact W.zret (v := 0) hx hb hr (nz (Or.inl rfl)) (fun t9 ht9 hW9 => ⟨⟨_, ws, rfl, (Or.inl rfl), ⟨gE.rf, gF.rf, hG, by rw [ht9]; exact hP, hD⟩⟩, hS.F ht9⟩) hS.2.2 dX12_end_16
  refine lv_if_lt (tgt := 15) hx hb dX12_end_1 (by decide) (fun c_3 => ?_) (fun c_3 => ?_)
  · exact J_15  _ _ ls  hP hD hS (lv_sub hl [] rfl)
  · refine lv_iload_n hx hb dX12_end_4 rfl (lv_at hl 1 rfl) ?_
    refine lv_aload_n hx hb dX12_end_5 rfl (lv_at hl 0 rfl) ?_
    obtain ⟨k_4, fs9, hk_4⟩ := gC_of o_h0
    obtain ⟨r0_4, r1_4, r2_4, r3_4, n3_4, r4_4, r5_4, r6_4, r7_4, r8_4, r9_4, c10_4, c11_4, c12_4, c13_4, c14_4, c15_4, c16_4, c17_4, rfl, o_r0_4, o_r1_4, o_r2_4, a_r3_4, f4_4, o_r4_4, o_r5_4, o_r6_4, o_r7_4, o_r8_4, o_r9_4, f11_4, f12_4, f13_4, f14_4, f15_4, f16_4, f17_4, -⟩ := (hG.1 _ _ _ _ hk_4).hX12 rfl
    refine va_get (D := gD g) (ci := 11) (v := .ref r0_4) (C := RX12) (T := TX12) (N := 18) hx hb hts inX12 hown hK hP k_4 hk_4 rfl 0 (by decide) (hts _ kw_349) (fun _ h9 => h9) rfl dX12_end_6 ?_
    obtain ⟨k_5, fs9, hk_5⟩ := gC_of o_r0_4
    obtain ⟨r0_5, n0_5, c1_5, rfl, a_r0_5, f1_5, f2_5, f3_5, f4_5, f5_5, -⟩ := (hG.1 _ _ _ _ hk_5).hX0 rfl
    refine va_get (D := gD g) (ci := 0) (v := .int c1_5) (C := RX0) (T := TX0) (N := 2) hx hb hts inX0 hown hK hP k_5 hk_5 rfl 1 (by decide) (hts _ kw_311) (fun _ h9 => h9) rfl dX12_end_9 ?_
    refine lv_icmp_le (tgt := 17) hx hb dX12_end_12 (by decide) (fun c_6 => ?_) (fun c_6 => ?_)
    · refine lv_aload_n hx hb dX12_end_17 rfl (lv_at hl 0 rfl) ?_
      refine va_get (D := gD g) (ci := 11) (v := .ref r0_4) (C := RX12) (T := TX12) (N := 18) hx hb hts inX12 hown hK hP k_4 hk_4 rfl 0 (by decide) (hts _ kw_349) (fun _ h9 => h9) rfl dX12_end_18 ?_
      refine lv_iload_n hx hb dX12_end_21 rfl (lv_at hl 1 rfl) ?_
      have hV9 : okv ws 0 1 (.int x1) := okv_i
      refine va_put (D := gD g) (ci := 0) (v := .int x1) (ty := .int) (C := RX0) (T := TX0) (N := 2) hx hb hts inX0 tyX0 tyX0_ok nmX0 hown hK hP hD hS k_5 hk_5 rfl 1 (by decide) (hts _ kw_311) (fun _ h9 => h9) rfl (by decide +kernel) rfl rfl (Nat.le_of_ble_eq_true rfl) dX12_end_22 (fun H locs hP hD hS => ?_)
      have f_7 : 0 ≤ x1.toInt := (by have e0 : (0 : Int32).toInt = 0 := (by decide); have q_c_3 := i_nlt c_3; have q_c_6 := i_le c_6; have q_f2_5 := f2_5; have q_f3_5 := f3_5; have g_c1_5 := i_rg c1_5; have g_x1 := i_rg x1; omega)
      have f_8 : x1.toInt ≤ n0_5 := (by have e0 : (0 : Int32).toInt = 0 := (by decide); have q_c_3 := i_nlt c_3; have q_f1_5 := f1_5; have q_f3_5 := f3_5; have q_f4_5 := f4_5; have q_f5_5 := f5_5; have q_c_6 := i_le c_6; have q_f_7 := f_7; have q_f2_5 := f2_5; have g_c1_5 := i_rg c1_5; have g_x1 := i_rg x1; omega)
      have hi_9 : invX0 g ws r0_4 [.ref r0_5, .int x1] := ⟨r0_5, (n0_5), (x1), rfl, a_r0_5, f1_5, f_7, f_8, f4_5, f5_5, trivial⟩
      obtain ⟨ws_10, e_ws_10⟩ : ∃ z, z = ws.set k_5 (r0_4, .inr (0, [.ref r0_5, .int x1])) := ⟨_, rfl⟩
      have hP : va_P (gD g) cl0 ws_10 H := by rw [e_ws_10]; exact hP
      have hD : va_D A ws_10 := by rw [e_ws_10]; exact hD
      have E_11 : gE ws ws_10 := gE_set e_ws_10 hk_5 (cw_o (fi := 1) (v := .int x1) rfl (by decide))
      have hG : Good g ws_10 := Good_set (fi := 1) (v := .int x1) e_ws_10 hk_5 E_11 rfl hV9 hG (ivX0 hi_9)
      have Fr_12 : gF [(0, 1)] [] (some r0_4) ws ws_10 := gF_put (fi := 1) (v := .int x1) e_ws_10 hk_5 rfl (by decide)
      have hkN := gset_self e_ws_10 hk_5
      have hk_4 := gset_ob e_ws_10 hk_5 hk_4 (by decide)
      have hk_5 := hkN
      have o_h0 := E_11.1 _ _ o_h0
      have o_r0_4 := E_11.1 _ _ o_r0_4
      have o_r1_4 := E_11.1 _ _ o_r1_4
      have o_r2_4 := E_11.1 _ _ o_r2_4
      have a_r3_4 := E_11.1 _ _ a_r3_4
      have o_r4_4 := E_11.1 _ _ o_r4_4
      have o_r5_4 := E_11.1 _ _ o_r5_4
      have o_r6_4 := E_11.1 _ _ o_r6_4
      have o_r7_4 := E_11.1 _ _ o_r7_4
      have o_r8_4 := E_11.1 _ _ o_r8_4
      have o_r9_4 := E_11.1 _ _ o_r9_4
      have a_r0_5 := E_11.1 _ _ a_r0_5
      refine lv_iconst (v := 1) hx hb dX12_end_25 (by decide) ?_
      refine W.widen (k := 0) (n := 0) (Nat.le_of_ble_eq_true rfl) (Nat.le_of_ble_eq_true rfl) ?_
      exact W.zret (v := 1) hx hb hr (nz (Or.inr rfl)) (fun t9 ht9 hW9 => ⟨⟨_, ws_10, rfl, (Or.inr rfl), ⟨E_11, (gF.mo (F' := [(0, 1)]) (C' := []) (S' := none) Fr_12 (fun _ h => h) (fun _ h => h) (Or.inl rfl)), hG, by rw [ht9]; exact hP, hD⟩⟩, hS.F ht9⟩) hS.2.2 dX12_end_26
    · exact J_15  _ _ ls  hP hD hS (lv_sub hl [] rfl)
set_option maxHeartbeats 1000000 in
set_option maxRecDepth 100000 in
theorem m_X12_rule (l : Launch) (g : Gm) (sz : Nat) (ws : va_W) (h0 : Nat) (hG : Good g ws) (o_h0 : gC ws h0 11) : Met l yX12_rule (wt yX12_rule cX12_rule 1 (some .int)) ({ frames := 0, cells := 0, slots := 0, locals := 0 }) (va_Pc [.ref h0] (st_G g sz ws)) (va_Qi (fun (r : Int32) (u9 : Unit) => True) (gQ0 g (va_A ws sz) ws) (va_A ws sz)) (0) (0) (va_A ws sz) := by
  refine Met.ofW (cc := cX12_rule) (maxL := 1) (ret := (some .int)) (by decide) rfl ?_
  intro p e s m args below meth c s₁ B hml hv
  obtain ⟨rfl, hsz, hP, hK, hD0, hex, hE⟩ := hv
  have hx := B.exec
  have hb := B.bytes
  have hr := B.returns
  have hts0 := atoms_spec (ws := wt yX12_rule cX12_rule 1 (some .int)) B.pre
  have hts : ∀ w ∈ tb, w.before _ s = true := fun w h => hts0 w (List.mem_cons_of_mem _ h)
  have hown : s.vm.findClass RX12 = some m.cls := findClass_of_methodNamed B.named
  subst hsz
  have hD := hD0.self (sz := s.heap.size)
  generalize hAe : va_A ws s.heap.size = A at hD hE ⊢
  have hA : ∀ q : Nat, s.heap.size ≤ q → A q := fun q h => by rw [← hAe]; exact Or.inr h
  have hS : va_S A s.heap s.heap [] := va_S.rf
  have hl := lv_entry ([.ref h0]) (n := 1) (Nat.le_of_ble_eq_true rfl)
  rw [lg_entry_eq]
  generalize (lg_sl ([.ref h0]) ++ List.replicate (1 - (lg_sl ([.ref h0])).length) Slot.unset).toArray = ls at hl ⊢
  have hl : lv_has ls 1 [(0, .ref h0)] := hl
  refine lv_aload_n hx hb dX12_rule_0 rfl (lv_at hl 0 rfl) ?_
  obtain ⟨k_1, fs9, hk_1⟩ := gC_of o_h0
  obtain ⟨r0_1, r1_1, r2_1, r3_1, n3_1, r4_1, r5_1, r6_1, r7_1, r8_1, r9_1, c10_1, c11_1, c12_1, c13_1, c14_1, c15_1, c16_1, c17_1, rfl, o_r0_1, o_r1_1, o_r2_1, a_r3_1, f4_1, o_r4_1, o_r5_1, o_r6_1, o_r7_1, o_r8_1, o_r9_1, f11_1, f12_1, f13_1, f14_1, f15_1, f16_1, f17_1, -⟩ := (hG.1 _ _ _ _ hk_1).hX12 rfl
  refine va_get (D := gD g) (ci := 11) (v := .int c13_1) (C := RX12) (T := TX12) (N := 18) hx hb hts inX12 hown hK hP k_1 hk_1 rfl 13 (by decide) (hts _ kw_369) (fun _ h9 => h9) rfl dX12_rule_1 ?_
  refine W.widen (k := 0) (n := 0) (Nat.le_of_ble_eq_true rfl) (Nat.le_of_ble_eq_true rfl) ?_
  exact W.iret (v := c13_1) hx hb hr (fun t9 ht9 hW9 => ⟨⟨_, (), rfl, trivial, ⟨by rw [ht9]; exact hP, hD⟩⟩, hS.F ht9⟩) hS.2.2 dX12_rule_4
set_option maxHeartbeats 1000000 in
set_option maxRecDepth 100000 in
theorem m_X12_place (l : Launch) (g : Gm) (sz : Nat) (ws : va_W) (h0 : Nat) (hG : Good g ws) (o_h0 : gC ws h0 11) : Met l yX12_place (wt yX12_place cX12_place 1 (some .int)) ({ frames := 0, cells := 0, slots := 0, locals := 0 }) (va_Pc [.ref h0] (st_G g sz ws)) (va_Qi (fun (r : Int32) (u9 : Unit) => True) (gQ0 g (va_A ws sz) ws) (va_A ws sz)) (0) (0) (va_A ws sz) := by
  refine Met.ofW (cc := cX12_place) (maxL := 1) (ret := (some .int)) (by decide) rfl ?_
  intro p e s m args below meth c s₁ B hml hv
  obtain ⟨rfl, hsz, hP, hK, hD0, hex, hE⟩ := hv
  have hx := B.exec
  have hb := B.bytes
  have hr := B.returns
  have hts0 := atoms_spec (ws := wt yX12_place cX12_place 1 (some .int)) B.pre
  have hts : ∀ w ∈ tb, w.before _ s = true := fun w h => hts0 w (List.mem_cons_of_mem _ h)
  have hown : s.vm.findClass RX12 = some m.cls := findClass_of_methodNamed B.named
  subst hsz
  have hD := hD0.self (sz := s.heap.size)
  generalize hAe : va_A ws s.heap.size = A at hD hE ⊢
  have hA : ∀ q : Nat, s.heap.size ≤ q → A q := fun q h => by rw [← hAe]; exact Or.inr h
  have hS : va_S A s.heap s.heap [] := va_S.rf
  have hl := lv_entry ([.ref h0]) (n := 1) (Nat.le_of_ble_eq_true rfl)
  rw [lg_entry_eq]
  generalize (lg_sl ([.ref h0]) ++ List.replicate (1 - (lg_sl ([.ref h0])).length) Slot.unset).toArray = ls at hl ⊢
  have hl : lv_has ls 1 [(0, .ref h0)] := hl
  refine lv_aload_n hx hb dX12_place_0 rfl (lv_at hl 0 rfl) ?_
  obtain ⟨k_1, fs9, hk_1⟩ := gC_of o_h0
  obtain ⟨r0_1, r1_1, r2_1, r3_1, n3_1, r4_1, r5_1, r6_1, r7_1, r8_1, r9_1, c10_1, c11_1, c12_1, c13_1, c14_1, c15_1, c16_1, c17_1, rfl, o_r0_1, o_r1_1, o_r2_1, a_r3_1, f4_1, o_r4_1, o_r5_1, o_r6_1, o_r7_1, o_r8_1, o_r9_1, f11_1, f12_1, f13_1, f14_1, f15_1, f16_1, f17_1, -⟩ := (hG.1 _ _ _ _ hk_1).hX12 rfl
  refine va_get (D := gD g) (ci := 11) (v := .int c14_1) (C := RX12) (T := TX12) (N := 18) hx hb hts inX12 hown hK hP k_1 hk_1 rfl 14 (by decide) (hts _ kw_371) (fun _ h9 => h9) rfl dX12_place_1 ?_
  refine W.widen (k := 0) (n := 0) (Nat.le_of_ble_eq_true rfl) (Nat.le_of_ble_eq_true rfl) ?_
  exact W.iret (v := c14_1) hx hb hr (fun t9 ht9 hW9 => ⟨⟨_, (), rfl, trivial, ⟨by rw [ht9]; exact hP, hD⟩⟩, hS.F ht9⟩) hS.2.2 dX12_place_4
set_option maxHeartbeats 1000000 in
set_option maxRecDepth 100000 in
theorem m_X12_method (l : Launch) (g : Gm) (sz : Nat) (ws : va_W) (h0 : Nat) (hG : Good g ws) (o_h0 : gC ws h0 11) : Met l yX12_method (wt yX12_method cX12_method 1 (some .int)) ({ frames := 0, cells := 0, slots := 0, locals := 0 }) (va_Pc [.ref h0] (st_G g sz ws)) (va_Qi (fun (r : Int32) (u9 : Unit) => True) (gQ0 g (va_A ws sz) ws) (va_A ws sz)) (0) (0) (va_A ws sz) := by
  refine Met.ofW (cc := cX12_method) (maxL := 1) (ret := (some .int)) (by decide) rfl ?_
  intro p e s m args below meth c s₁ B hml hv
  obtain ⟨rfl, hsz, hP, hK, hD0, hex, hE⟩ := hv
  have hx := B.exec
  have hb := B.bytes
  have hr := B.returns
  have hts0 := atoms_spec (ws := wt yX12_method cX12_method 1 (some .int)) B.pre
  have hts : ∀ w ∈ tb, w.before _ s = true := fun w h => hts0 w (List.mem_cons_of_mem _ h)
  have hown : s.vm.findClass RX12 = some m.cls := findClass_of_methodNamed B.named
  subst hsz
  have hD := hD0.self (sz := s.heap.size)
  generalize hAe : va_A ws s.heap.size = A at hD hE ⊢
  have hA : ∀ q : Nat, s.heap.size ≤ q → A q := fun q h => by rw [← hAe]; exact Or.inr h
  have hS : va_S A s.heap s.heap [] := va_S.rf
  have hl := lv_entry ([.ref h0]) (n := 1) (Nat.le_of_ble_eq_true rfl)
  rw [lg_entry_eq]
  generalize (lg_sl ([.ref h0]) ++ List.replicate (1 - (lg_sl ([.ref h0])).length) Slot.unset).toArray = ls at hl ⊢
  have hl : lv_has ls 1 [(0, .ref h0)] := hl
  refine lv_aload_n hx hb dX12_method_0 rfl (lv_at hl 0 rfl) ?_
  obtain ⟨k_1, fs9, hk_1⟩ := gC_of o_h0
  obtain ⟨r0_1, r1_1, r2_1, r3_1, n3_1, r4_1, r5_1, r6_1, r7_1, r8_1, r9_1, c10_1, c11_1, c12_1, c13_1, c14_1, c15_1, c16_1, c17_1, rfl, o_r0_1, o_r1_1, o_r2_1, a_r3_1, f4_1, o_r4_1, o_r5_1, o_r6_1, o_r7_1, o_r8_1, o_r9_1, f11_1, f12_1, f13_1, f14_1, f15_1, f16_1, f17_1, -⟩ := (hG.1 _ _ _ _ hk_1).hX12 rfl
  refine va_get (D := gD g) (ci := 11) (v := .int c15_1) (C := RX12) (T := TX12) (N := 18) hx hb hts inX12 hown hK hP k_1 hk_1 rfl 15 (by decide) (hts _ kw_405) (fun _ h9 => h9) rfl dX12_method_1 ?_
  refine W.widen (k := 0) (n := 0) (Nat.le_of_ble_eq_true rfl) (Nat.le_of_ble_eq_true rfl) ?_
  exact W.iret (v := c15_1) hx hb hr (fun t9 ht9 hW9 => ⟨⟨_, (), rfl, trivial, ⟨by rw [ht9]; exact hP, hD⟩⟩, hS.F ht9⟩) hS.2.2 dX12_method_4
set_option maxHeartbeats 1000000 in
set_option maxRecDepth 100000 in
theorem m_X12_at (l : Launch) (g : Gm) (sz : Nat) (ws : va_W) (h0 : Nat) (hG : Good g ws) (o_h0 : gC ws h0 11) : Met l yX12_at (wt yX12_at cX12_at 1 (some .int)) ({ frames := 0, cells := 0, slots := 0, locals := 0 }) (va_Pc [.ref h0] (st_G g sz ws)) (va_Qi (fun (r : Int32) (u9 : Unit) => True) (gQ0 g (va_A ws sz) ws) (va_A ws sz)) (0) (0) (va_A ws sz) := by
  refine Met.ofW (cc := cX12_at) (maxL := 1) (ret := (some .int)) (by decide) rfl ?_
  intro p e s m args below meth c s₁ B hml hv
  obtain ⟨rfl, hsz, hP, hK, hD0, hex, hE⟩ := hv
  have hx := B.exec
  have hb := B.bytes
  have hr := B.returns
  have hts0 := atoms_spec (ws := wt yX12_at cX12_at 1 (some .int)) B.pre
  have hts : ∀ w ∈ tb, w.before _ s = true := fun w h => hts0 w (List.mem_cons_of_mem _ h)
  have hown : s.vm.findClass RX12 = some m.cls := findClass_of_methodNamed B.named
  subst hsz
  have hD := hD0.self (sz := s.heap.size)
  generalize hAe : va_A ws s.heap.size = A at hD hE ⊢
  have hA : ∀ q : Nat, s.heap.size ≤ q → A q := fun q h => by rw [← hAe]; exact Or.inr h
  have hS : va_S A s.heap s.heap [] := va_S.rf
  have hl := lv_entry ([.ref h0]) (n := 1) (Nat.le_of_ble_eq_true rfl)
  rw [lg_entry_eq]
  generalize (lg_sl ([.ref h0]) ++ List.replicate (1 - (lg_sl ([.ref h0])).length) Slot.unset).toArray = ls at hl ⊢
  have hl : lv_has ls 1 [(0, .ref h0)] := hl
  refine lv_aload_n hx hb dX12_at_0 rfl (lv_at hl 0 rfl) ?_
  obtain ⟨k_1, fs9, hk_1⟩ := gC_of o_h0
  obtain ⟨r0_1, r1_1, r2_1, r3_1, n3_1, r4_1, r5_1, r6_1, r7_1, r8_1, r9_1, c10_1, c11_1, c12_1, c13_1, c14_1, c15_1, c16_1, c17_1, rfl, o_r0_1, o_r1_1, o_r2_1, a_r3_1, f4_1, o_r4_1, o_r5_1, o_r6_1, o_r7_1, o_r8_1, o_r9_1, f11_1, f12_1, f13_1, f14_1, f15_1, f16_1, f17_1, -⟩ := (hG.1 _ _ _ _ hk_1).hX12 rfl
  refine va_get (D := gD g) (ci := 11) (v := .int c16_1) (C := RX12) (T := TX12) (N := 18) hx hb hts inX12 hown hK hP k_1 hk_1 rfl 16 (by decide) (hts _ kw_295) (fun _ h9 => h9) rfl dX12_at_1 ?_
  refine W.widen (k := 0) (n := 0) (Nat.le_of_ble_eq_true rfl) (Nat.le_of_ble_eq_true rfl) ?_
  exact W.iret (v := c16_1) hx hb hr (fun t9 ht9 hW9 => ⟨⟨_, (), rfl, trivial, ⟨by rw [ht9]; exact hP, hD⟩⟩, hS.F ht9⟩) hS.2.2 dX12_at_4
set_option maxHeartbeats 1000000 in
set_option maxRecDepth 100000 in
theorem m_X12_byteAt (l : Launch) (g : Gm) (sz : Nat) (ws : va_W) (h0 : Nat) (x1 : Int32) (hG : Good g ws) (o_h0 : gC ws h0 11) : Met l yX12_byteAt (wt yX12_byteAt cX12_byteAt 2 (some .int)) ({ frames := 1, cells := 0, slots := 0, locals := 21 }) (va_Pc [.ref h0, .int x1] (st_G g sz ws)) (va_Qi (fun (r : Int32) (u9 : Unit) => True) (gQ0 g (va_A ws sz) ws) (va_A ws sz)) (0) (0) (va_A ws sz) := by
  refine Met.ofW (cc := cX12_byteAt) (maxL := 2) (ret := (some .int)) (by decide) rfl ?_
  intro p e s m args below meth c s₁ B hml hv
  obtain ⟨rfl, hsz, hP, hK, hD0, hex, hE⟩ := hv
  have hx := B.exec
  have hb := B.bytes
  have hr := B.returns
  have hts0 := atoms_spec (ws := wt yX12_byteAt cX12_byteAt 2 (some .int)) B.pre
  have hts : ∀ w ∈ tb, w.before _ s = true := fun w h => hts0 w (List.mem_cons_of_mem _ h)
  have hown : s.vm.findClass RX12 = some m.cls := findClass_of_methodNamed B.named
  subst hsz
  have hD := hD0.self (sz := s.heap.size)
  generalize hAe : va_A ws s.heap.size = A at hD hE ⊢
  have hA : ∀ q : Nat, s.heap.size ≤ q → A q := fun q h => by rw [← hAe]; exact Or.inr h
  have hS : va_S A s.heap s.heap [] := va_S.rf
  have hl := lv_entry ([.ref h0, .int x1]) (n := 2) (Nat.le_of_ble_eq_true rfl)
  rw [lg_entry_eq]
  generalize (lg_sl ([.ref h0, .int x1]) ++ List.replicate (2 - (lg_sl ([.ref h0, .int x1])).length) Slot.unset).toArray = ls at hl ⊢
  have hl : lv_has ls 2 [(0, .ref h0), (1, .int x1)] := hl
  refine lv_iload_n hx hb dX12_byteAt_0 rfl (lv_at hl 1 rfl) ?_
  have J_27 : ∀ (t_1 : Int32) (H : Heap) (locs : List Loc) (ls : Array Slot), va_P (gD g) cl0 ws H → va_D A ws → va_S A s.heap H locs → lv_has ls 2 [] → W p l e (headSpec (wt yX12_byteAt cX12_byteAt 2 (some .int)) ({ frames := 1, cells := 0, slots := 0, locals := 21 })).room s m ([.ref h0, .int x1] : List Value).toArray below meth c H locs (0) (0) (MQ below (va_Qi (fun (r : Int32) (u9 : Unit) => True) (gQ0 g A ws) A) ([.ref h0, .int x1] : List Value).toArray s (0) (0) A) (F0 m 27 ls [.int t_1]) := by
    intro t_1 H locs ls  hP hD hS hl
    refine W.widen (k := 0) (n := 0) (Nat.le_of_ble_eq_true rfl) (Nat.le_of_ble_eq_true rfl) ?_
    exact W.iret (v := t_1) hx hb hr (fun t9 ht9 hW9 => ⟨⟨_, (), rfl, trivial, ⟨by rw [ht9]; exact hP, hD⟩⟩, hS.F ht9⟩) hS.2.2 dX12_byteAt_27
  have J_15 : ∀  (H : Heap) (locs : List Loc) (ls : Array Slot), va_P (gD g) cl0 ws H → va_D A ws → va_S A s.heap H locs → lv_has ls 2 [] → W p l e (headSpec (wt yX12_byteAt cX12_byteAt 2 (some .int)) ({ frames := 1, cells := 0, slots := 0, locals := 21 })).room s m ([.ref h0, .int x1] : List Value).toArray below meth c H locs (0) (0) (MQ below (va_Qi (fun (r : Int32) (u9 : Unit) => True) (gQ0 g A ws) A) ([.ref h0, .int x1] : List Value).toArray s (0) (0) A) (F0 m 15 ls []) := by
    intro  H locs ls  hP hD hS hl
    refine lv_iconst (v := (-1)) hx hb dX12_byteAt_15 (by decide) ?_
    refine lv_goto (tgt := 27) hx hb dX12_byteAt_16 (by decide) ?_
    exact J_27 ((-1)) H locs ls  hP hD hS (lv_sub hl [] rfl)
  refine lv_if_lt (tgt := 15) hx hb dX12_byteAt_1 (by decide) (fun c_6 => ?_) (fun c_6 => ?_)
  · exact J_15  _ _ ls  hP hD hS (lv_sub hl [] rfl)
  · refine lv_iload_n hx hb dX12_byteAt_4 rfl (lv_at hl 1 rfl) ?_
    refine lv_aload_n hx hb dX12_byteAt_5 rfl (lv_at hl 0 rfl) ?_
    obtain ⟨k_7, fs9, hk_7⟩ := gC_of o_h0
    obtain ⟨r0_7, r1_7, r2_7, r3_7, n3_7, r4_7, r5_7, r6_7, r7_7, r8_7, r9_7, c10_7, c11_7, c12_7, c13_7, c14_7, c15_7, c16_7, c17_7, rfl, o_r0_7, o_r1_7, o_r2_7, a_r3_7, f4_7, o_r4_7, o_r5_7, o_r6_7, o_r7_7, o_r8_7, o_r9_7, f11_7, f12_7, f13_7, f14_7, f15_7, f16_7, f17_7, -⟩ := (hG.1 _ _ _ _ hk_7).hX12 rfl
    refine va_get (D := gD g) (ci := 11) (v := .ref r1_7) (C := RX12) (T := TX12) (N := 18) hx hb hts inX12 hown hK hP k_7 hk_7 rfl 1 (by decide) (hts _ kw_310) (fun _ h9 => h9) rfl dX12_byteAt_6 ?_
    obtain ⟨k_8, fs9, hk_8⟩ := gC_of o_r1_7
    obtain ⟨r0_8, n0_8, c1_8, rfl, a_r0_8, f1_8, f2_8, f3_8, f4_8, f5_8, -⟩ := (hG.1 _ _ _ _ hk_8).hX0 rfl
    refine va_get (D := gD g) (ci := 0) (v := .int c1_8) (C := RX0) (T := TX0) (N := 2) hx hb hts inX0 hown hK hP k_8 hk_8 rfl 1 (by decide) (hts _ kw_311) (fun _ h9 => h9) rfl dX12_byteAt_9 ?_
    refine lv_icmp_lt (tgt := 19) hx hb dX12_byteAt_12 (by decide) (fun c_9 => ?_) (fun c_9 => ?_)
    · refine lv_aload_n hx hb dX12_byteAt_19 rfl (lv_at hl 0 rfl) ?_
      refine va_get (D := gD g) (ci := 11) (v := .ref r1_7) (C := RX12) (T := TX12) (N := 18) hx hb hts inX12 hown hK hP k_7 hk_7 rfl 1 (by decide) (hts _ kw_310) (fun _ h9 => h9) rfl dX12_byteAt_20 ?_
      refine lv_iload_n hx hb dX12_byteAt_23 rfl (lv_at hl 1 rfl) ?_
      have hFc := gfree hD hS hA
      refine va_calli (va_runV (As := [.int x1]) (rest := []) ⟨hx, hb, hml, hown, hts⟩ (m_X0_get l g s.heap.size ws r1_7 (x1) hG o_r1_7) (cwV 1 hts (gd_V kw_312 kw_1 kw_2 kw_3 kw_0) rfl rfl rfl (by decide +kernel) ⟨Nat.le_of_ble_eq_true rfl, Nat.le_of_ble_eq_true rfl⟩) ⟨gblind, va_recv hK hP (ci := 0) (q0 := k_8) rfl hk_8, fun U hU hW9 => gmk hU hW9 hP hK hD hex hE hS hFc⟩ rfl rfl hl.1 rfl (lv_room (Nat.le_of_ble_eq_true rfl)) dX12_byteAt_24 ⟨Nat.le_of_ble_eq_true rfl, Nat.le_of_ble_eq_true rfl⟩) hS (fun q _ h => hFc q h) hFc (fun r_10 u9 t9 H1 locs ht9 hvm9 hw9 hB9 hz9 hk9 hS => ?_)
      have hP : va_P (gD g) cl0 ws H1 := by rw [← ht9]; exact hB9.1
      clear hB9 hz9 hk9 hvm9 ht9 hw9
      generalize H1 = H at hP hS ⊢
      exact J_27 (r_10) H locs ls  hP hD hS (lv_sub hl [] rfl)
    · exact J_15  _ _ ls  hP hD hS (lv_sub hl [] rfl)
set_option maxHeartbeats 1000000 in
set_option maxRecDepth 100000 in
theorem m_X12_argument (l : Launch) (g : Gm) (sz : Nat) (ws : va_W) (h0 : Nat) (y1 : Int64) (hG : Good g ws) (o_h0 : gC ws h0 11) : Met l yX12_argument (wt yX12_argument cX12_argument 3 (some .int)) ({ frames := 1, cells := 0, slots := 0, locals := 22 }) (va_Pc [.ref h0, .long y1] (st_G g sz ws)) (va_Qi (fun (r : Int32) (u9 : va_W) => True) (gQ1 g [(5, 7)] [(5, 6)] none (va_A ws sz) ws) (va_A ws sz)) (0) (0) (va_A ws sz) := by
  refine Met.ofW (cc := cX12_argument) (maxL := 3) (ret := (some .int)) (by decide) rfl ?_
  intro p e s m args below meth c s₁ B hml hv
  obtain ⟨rfl, hsz, hP, hK, hD0, hex, hE⟩ := hv
  have hx := B.exec
  have hb := B.bytes
  have hr := B.returns
  have hts0 := atoms_spec (ws := wt yX12_argument cX12_argument 3 (some .int)) B.pre
  have hts : ∀ w ∈ tb, w.before _ s = true := fun w h => hts0 w (List.mem_cons_of_mem _ h)
  have hown : s.vm.findClass RX12 = some m.cls := findClass_of_methodNamed B.named
  subst hsz
  have hD := hD0.self (sz := s.heap.size)
  generalize hAe : va_A ws s.heap.size = A at hD hE ⊢
  have hA : ∀ q : Nat, s.heap.size ≤ q → A q := fun q h => by rw [← hAe]; exact Or.inr h
  have hS : va_S A s.heap s.heap [] := va_S.rf
  have hl := lv_entry ([.ref h0, .long y1]) (n := 3) (Nat.le_of_ble_eq_true rfl)
  rw [lg_entry_eq]
  generalize (lg_sl ([.ref h0, .long y1]) ++ List.replicate (3 - (lg_sl ([.ref h0, .long y1])).length) Slot.unset).toArray = ls at hl ⊢
  have hl : lv_has ls 3 [(0, .ref h0), (1, .long y1)] := hl
  refine lv_aload_n hx hb dX12_argument_0 rfl (lv_at hl 0 rfl) ?_
  obtain ⟨k_1, fs9, hk_1⟩ := gC_of o_h0
  obtain ⟨r0_1, r1_1, r2_1, r3_1, n3_1, r4_1, r5_1, r6_1, r7_1, r8_1, r9_1, c10_1, c11_1, c12_1, c13_1, c14_1, c15_1, c16_1, c17_1, rfl, o_r0_1, o_r1_1, o_r2_1, a_r3_1, f4_1, o_r4_1, o_r5_1, o_r6_1, o_r7_1, o_r8_1, o_r9_1, f11_1, f12_1, f13_1, f14_1, f15_1, f16_1, f17_1, -⟩ := (hG.1 _ _ _ _ hk_1).hX12 rfl
  refine va_get (D := gD g) (ci := 11) (v := .ref r7_1) (C := RX12) (T := TX12) (N := 18) hx hb hts inX12 hown hK hP k_1 hk_1 rfl 7 (by decide) (hts _ kw_286) (fun _ h9 => h9) rfl dX12_argument_1 ?_
  refine lv_lload_n hx hb dX12_argument_4 rfl (lv_at hl 1 rfl) ?_
  have hFc := gfree hD hS hA
  obtain ⟨k_2, fs_2, hk_2⟩ := gC_of o_r7_1
  refine va_calli (va_runV (As := [.long y1]) (rest := []) ⟨hx, hb, hml, hown, hts⟩ (m_X5_addArgument l g s.heap.size ws r7_1 (y1) hG o_r7_1) (cwV 1 hts (gd_V kw_287 kw_1001 kw_1002 kw_398 kw_1000) rfl rfl rfl (by decide +kernel) ⟨Nat.le_of_ble_eq_true rfl, Nat.le_of_ble_eq_true rfl⟩) ⟨gblind, va_recv hK hP (ci := 5) (q0 := k_2) rfl hk_2, fun U hU hW9 => gmk hU hW9 hP hK hD hex hE hS hFc⟩ rfl rfl hl.1 rfl (lv_room (Nat.le_of_ble_eq_true rfl)) dX12_argument_5 ⟨Nat.le_of_ble_eq_true rfl, Nat.le_of_ble_eq_true rfl⟩) hS (fun q _ h => hFc q h) hFc (fun r_3 ws_4 t9 H1 locs ht9 hvm9 hw9 hB9 hz9 hk9 hS => ?_)
  obtain ⟨E_5, Fr_6, hG, hP1, hD1⟩ := hB9
  have hP : va_P (gD g) cl0 ws_4 H1 := by rw [← ht9]; exact hP1
  have hD : va_D A ws_4 := hD1.weaken (fun _ _ _ h => hFc _ h)
  clear hP1 hD1 hz9 hk9 hvm9 ht9 hw9
  generalize H1 = H at hP hS ⊢
  have aa_9 := a_r3_1
  have o_h0 := E_5.1 _ _ o_h0
  refine W.widen (k := 0) (n := 0) (Nat.le_of_ble_eq_true rfl) (Nat.le_of_ble_eq_true rfl) ?_
  exact W.iret (v := r_3) hx hb hr (fun t9 ht9 hW9 => ⟨⟨_, ws_4, rfl, trivial, ⟨E_5, Fr_6, hG, by rw [ht9]; exact hP, hD⟩⟩, hS.F ht9⟩) hS.2.2 dX12_argument_8
set_option maxHeartbeats 1000000 in
set_option maxRecDepth 100000 in
theorem m_X12_result (l : Launch) (g : Gm) (sz : Nat) (ws : va_W) (h0 : Nat) (hG : Good g ws) (o_h0 : gC ws h0 11) : Met l yX12_result (wt yX12_result cX12_result 1 (some .long)) ({ frames := 0, cells := 0, slots := 0, locals := 0 }) (va_Pc [.ref h0] (st_G g sz ws)) (va_Ql (fun (r : Int64) (u9 : Unit) => True) (gQ0 g (va_A ws sz) ws) (va_A ws sz)) (0) (0) (va_A ws sz) := by
  refine Met.ofW (cc := cX12_result) (maxL := 1) (ret := (some .long)) (by decide) rfl ?_
  intro p e s m args below meth c s₁ B hml hv
  obtain ⟨rfl, hsz, hP, hK, hD0, hex, hE⟩ := hv
  have hx := B.exec
  have hb := B.bytes
  have hr := B.returns
  have hts0 := atoms_spec (ws := wt yX12_result cX12_result 1 (some .long)) B.pre
  have hts : ∀ w ∈ tb, w.before _ s = true := fun w h => hts0 w (List.mem_cons_of_mem _ h)
  have hown : s.vm.findClass RX12 = some m.cls := findClass_of_methodNamed B.named
  subst hsz
  have hD := hD0.self (sz := s.heap.size)
  generalize hAe : va_A ws s.heap.size = A at hD hE ⊢
  have hA : ∀ q : Nat, s.heap.size ≤ q → A q := fun q h => by rw [← hAe]; exact Or.inr h
  have hS : va_S A s.heap s.heap [] := va_S.rf
  have hl := lv_entry ([.ref h0]) (n := 1) (Nat.le_of_ble_eq_true rfl)
  rw [lg_entry_eq]
  generalize (lg_sl ([.ref h0]) ++ List.replicate (1 - (lg_sl ([.ref h0])).length) Slot.unset).toArray = ls at hl ⊢
  have hl : lv_has ls 1 [(0, .ref h0)] := hl
  refine lv_aload_n hx hb dX12_result_0 rfl (lv_at hl 0 rfl) ?_
  obtain ⟨k_1, fs9, hk_1⟩ := gC_of o_h0
  obtain ⟨r0_1, r1_1, r2_1, r3_1, n3_1, r4_1, r5_1, r6_1, r7_1, r8_1, r9_1, c10_1, c11_1, c12_1, c13_1, c14_1, c15_1, c16_1, c17_1, rfl, o_r0_1, o_r1_1, o_r2_1, a_r3_1, f4_1, o_r4_1, o_r5_1, o_r6_1, o_r7_1, o_r8_1, o_r9_1, f11_1, f12_1, f13_1, f14_1, f15_1, f16_1, f17_1, -⟩ := (hG.1 _ _ _ _ hk_1).hX12 rfl
  refine va_get (D := gD g) (ci := 11) (v := .ref r7_1) (C := RX12) (T := TX12) (N := 18) hx hb hts inX12 hown hK hP k_1 hk_1 rfl 7 (by decide) (hts _ kw_286) (fun _ h9 => h9) rfl dX12_result_1 ?_
  obtain ⟨k_2, fs9, hk_2⟩ := gC_of o_r7_1
  obtain ⟨v0_2, r1_2, n1_2, r2_2, n2_2, c3_2, r4_2, n4_2, c5_2, r6_2, n6_2, c7_2, r8_2, n8_2, r9_2, n9_2, r10_2, n10_2, c11_2, v12_2, c13_2, c14_2, c15_2, l16_2, c17_2, c18_2, c19_2, rfl, o_v0_2, F_v0_2, a_r1_2, f3_2, a_r2_2, f5_2, a_r4_2, f7_2, a_r6_2, f9_2, a_r8_2, f11_2, a_r9_2, f13_2, a_r10_2, f15_2, o_v12_2, f17_2, f18_2, f19_2, f20_2, f21_2, f22_2, f23_2, f24_2, f25_2, f26_2, f27_2, f28_2, f29_2, f30_2, f31_2, -⟩ := (hG.1 _ _ _ _ hk_2).hX5 rfl
  refine va_get (D := gD g) (ci := 5) (v := .long l16_2) (C := RX5) (T := TX5) (N := 20) hx hb hts inX5 hown hK hP k_2 hk_2 rfl 16 (by decide) (hts _ kw_427) (fun _ h9 => h9) rfl dX12_result_4 ?_
  refine W.widen (k := 0) (n := 0) (Nat.le_of_ble_eq_true rfl) (Nat.le_of_ble_eq_true rfl) ?_
  exact W.lret (v := l16_2) hx hb hr (fun t9 ht9 hW9 => ⟨⟨_, (), rfl, trivial, ⟨by rw [ht9]; exact hP, hD⟩⟩, hS.F ht9⟩) hS.2.2 dX12_result_7
set_option maxHeartbeats 1000000 in
set_option maxRecDepth 100000 in
theorem m_X12_error (l : Launch) (g : Gm) (sz : Nat) (ws : va_W) (h0 : Nat) (hG : Good g ws) (o_h0 : gC ws h0 11) : Met l yX12_error (wt yX12_error cX12_error 1 (some .int)) ({ frames := 0, cells := 0, slots := 0, locals := 0 }) (va_Pc [.ref h0] (st_G g sz ws)) (va_Qi (fun (r : Int32) (u9 : Unit) => True) (gQ0 g (va_A ws sz) ws) (va_A ws sz)) (0) (0) (va_A ws sz) := by
  refine Met.ofW (cc := cX12_error) (maxL := 1) (ret := (some .int)) (by decide) rfl ?_
  intro p e s m args below meth c s₁ B hml hv
  obtain ⟨rfl, hsz, hP, hK, hD0, hex, hE⟩ := hv
  have hx := B.exec
  have hb := B.bytes
  have hr := B.returns
  have hts0 := atoms_spec (ws := wt yX12_error cX12_error 1 (some .int)) B.pre
  have hts : ∀ w ∈ tb, w.before _ s = true := fun w h => hts0 w (List.mem_cons_of_mem _ h)
  have hown : s.vm.findClass RX12 = some m.cls := findClass_of_methodNamed B.named
  subst hsz
  have hD := hD0.self (sz := s.heap.size)
  generalize hAe : va_A ws s.heap.size = A at hD hE ⊢
  have hA : ∀ q : Nat, s.heap.size ≤ q → A q := fun q h => by rw [← hAe]; exact Or.inr h
  have hS : va_S A s.heap s.heap [] := va_S.rf
  have hl := lv_entry ([.ref h0]) (n := 1) (Nat.le_of_ble_eq_true rfl)
  rw [lg_entry_eq]
  generalize (lg_sl ([.ref h0]) ++ List.replicate (1 - (lg_sl ([.ref h0])).length) Slot.unset).toArray = ls at hl ⊢
  have hl : lv_has ls 1 [(0, .ref h0)] := hl
  refine lv_aload_n hx hb dX12_error_0 rfl (lv_at hl 0 rfl) ?_
  obtain ⟨k_1, fs9, hk_1⟩ := gC_of o_h0
  obtain ⟨r0_1, r1_1, r2_1, r3_1, n3_1, r4_1, r5_1, r6_1, r7_1, r8_1, r9_1, c10_1, c11_1, c12_1, c13_1, c14_1, c15_1, c16_1, c17_1, rfl, o_r0_1, o_r1_1, o_r2_1, a_r3_1, f4_1, o_r4_1, o_r5_1, o_r6_1, o_r7_1, o_r8_1, o_r9_1, f11_1, f12_1, f13_1, f14_1, f15_1, f16_1, f17_1, -⟩ := (hG.1 _ _ _ _ hk_1).hX12 rfl
  refine va_get (D := gD g) (ci := 11) (v := .ref r7_1) (C := RX12) (T := TX12) (N := 18) hx hb hts inX12 hown hK hP k_1 hk_1 rfl 7 (by decide) (hts _ kw_286) (fun _ h9 => h9) rfl dX12_error_1 ?_
  obtain ⟨k_2, fs9, hk_2⟩ := gC_of o_r7_1
  obtain ⟨v0_2, r1_2, n1_2, r2_2, n2_2, c3_2, r4_2, n4_2, c5_2, r6_2, n6_2, c7_2, r8_2, n8_2, r9_2, n9_2, r10_2, n10_2, c11_2, v12_2, c13_2, c14_2, c15_2, l16_2, c17_2, c18_2, c19_2, rfl, o_v0_2, F_v0_2, a_r1_2, f3_2, a_r2_2, f5_2, a_r4_2, f7_2, a_r6_2, f9_2, a_r8_2, f11_2, a_r9_2, f13_2, a_r10_2, f15_2, o_v12_2, f17_2, f18_2, f19_2, f20_2, f21_2, f22_2, f23_2, f24_2, f25_2, f26_2, f27_2, f28_2, f29_2, f30_2, f31_2, -⟩ := (hG.1 _ _ _ _ hk_2).hX5 rfl
  refine va_get (D := gD g) (ci := 5) (v := .int c17_2) (C := RX5) (T := TX5) (N := 20) hx hb hts inX5 hown hK hP k_2 hk_2 rfl 17 (by decide) (hts _ kw_353) (fun _ h9 => h9) rfl dX12_error_4 ?_
  refine W.widen (k := 0) (n := 0) (Nat.le_of_ble_eq_true rfl) (Nat.le_of_ble_eq_true rfl) ?_
  exact W.iret (v := c17_2) hx hb hr (fun t9 ht9 hW9 => ⟨⟨_, (), rfl, trivial, ⟨by rw [ht9]; exact hP, hD⟩⟩, hS.F ht9⟩) hS.2.2 dX12_error_7
set_option maxHeartbeats 1000000 in
set_option maxRecDepth 100000 in
theorem m_X12_steps (l : Launch) (g : Gm) (sz : Nat) (ws : va_W) (h0 : Nat) (hG : Good g ws) (o_h0 : gC ws h0 11) : Met l yX12_steps (wt yX12_steps cX12_steps 1 (some .int)) ({ frames := 0, cells := 0, slots := 0, locals := 0 }) (va_Pc [.ref h0] (st_G g sz ws)) (va_Qi (fun (r : Int32) (u9 : Unit) => True) (gQ0 g (va_A ws sz) ws) (va_A ws sz)) (0) (0) (va_A ws sz) := by
  refine Met.ofW (cc := cX12_steps) (maxL := 1) (ret := (some .int)) (by decide) rfl ?_
  intro p e s m args below meth c s₁ B hml hv
  obtain ⟨rfl, hsz, hP, hK, hD0, hex, hE⟩ := hv
  have hx := B.exec
  have hb := B.bytes
  have hr := B.returns
  have hts0 := atoms_spec (ws := wt yX12_steps cX12_steps 1 (some .int)) B.pre
  have hts : ∀ w ∈ tb, w.before _ s = true := fun w h => hts0 w (List.mem_cons_of_mem _ h)
  have hown : s.vm.findClass RX12 = some m.cls := findClass_of_methodNamed B.named
  subst hsz
  have hD := hD0.self (sz := s.heap.size)
  generalize hAe : va_A ws s.heap.size = A at hD hE ⊢
  have hA : ∀ q : Nat, s.heap.size ≤ q → A q := fun q h => by rw [← hAe]; exact Or.inr h
  have hS : va_S A s.heap s.heap [] := va_S.rf
  have hl := lv_entry ([.ref h0]) (n := 1) (Nat.le_of_ble_eq_true rfl)
  rw [lg_entry_eq]
  generalize (lg_sl ([.ref h0]) ++ List.replicate (1 - (lg_sl ([.ref h0])).length) Slot.unset).toArray = ls at hl ⊢
  have hl : lv_has ls 1 [(0, .ref h0)] := hl
  refine lv_aload_n hx hb dX12_steps_0 rfl (lv_at hl 0 rfl) ?_
  obtain ⟨k_1, fs9, hk_1⟩ := gC_of o_h0
  obtain ⟨r0_1, r1_1, r2_1, r3_1, n3_1, r4_1, r5_1, r6_1, r7_1, r8_1, r9_1, c10_1, c11_1, c12_1, c13_1, c14_1, c15_1, c16_1, c17_1, rfl, o_r0_1, o_r1_1, o_r2_1, a_r3_1, f4_1, o_r4_1, o_r5_1, o_r6_1, o_r7_1, o_r8_1, o_r9_1, f11_1, f12_1, f13_1, f14_1, f15_1, f16_1, f17_1, -⟩ := (hG.1 _ _ _ _ hk_1).hX12 rfl
  refine va_get (D := gD g) (ci := 11) (v := .ref r7_1) (C := RX12) (T := TX12) (N := 18) hx hb hts inX12 hown hK hP k_1 hk_1 rfl 7 (by decide) (hts _ kw_286) (fun _ h9 => h9) rfl dX12_steps_1 ?_
  obtain ⟨k_2, fs9, hk_2⟩ := gC_of o_r7_1
  obtain ⟨v0_2, r1_2, n1_2, r2_2, n2_2, c3_2, r4_2, n4_2, c5_2, r6_2, n6_2, c7_2, r8_2, n8_2, r9_2, n9_2, r10_2, n10_2, c11_2, v12_2, c13_2, c14_2, c15_2, l16_2, c17_2, c18_2, c19_2, rfl, o_v0_2, F_v0_2, a_r1_2, f3_2, a_r2_2, f5_2, a_r4_2, f7_2, a_r6_2, f9_2, a_r8_2, f11_2, a_r9_2, f13_2, a_r10_2, f15_2, o_v12_2, f17_2, f18_2, f19_2, f20_2, f21_2, f22_2, f23_2, f24_2, f25_2, f26_2, f27_2, f28_2, f29_2, f30_2, f31_2, -⟩ := (hG.1 _ _ _ _ hk_2).hX5 rfl
  refine va_get (D := gD g) (ci := 5) (v := .int c18_2) (C := RX5) (T := TX5) (N := 20) hx hb hts inX5 hown hK hP k_2 hk_2 rfl 18 (by decide) (hts _ kw_458) (fun _ h9 => h9) rfl dX12_steps_4 ?_
  refine W.widen (k := 0) (n := 0) (Nat.le_of_ble_eq_true rfl) (Nat.le_of_ble_eq_true rfl) ?_
  exact W.iret (v := c18_2) hx hb hr (fun t9 ht9 hW9 => ⟨⟨_, (), rfl, trivial, ⟨by rw [ht9]; exact hP, hD⟩⟩, hS.F ht9⟩) hS.2.2 dX12_steps_7
set_option maxHeartbeats 1000000 in
set_option maxRecDepth 100000 in
theorem m_X12_field (l : Launch) (g : Gm) (sz : Nat) (ws : va_W) (h0 : Nat) (x1 : Int32) (hG : Good g ws) (o_h0 : gC ws h0 11) : Met l yX12_field (wt yX12_field cX12_field 2 (some .long)) ({ frames := 1, cells := 0, slots := 0, locals := 21 }) (va_Pc [.ref h0, .int x1] (st_G g sz ws)) (va_Ql (fun (r : Int64) (u9 : Unit) => True) (gQ0 g (va_A ws sz) ws) (va_A ws sz)) (0) (0) (va_A ws sz) := by
  refine Met.ofW (cc := cX12_field) (maxL := 2) (ret := (some .long)) (by decide) rfl ?_
  intro p e s m args below meth c s₁ B hml hv
  obtain ⟨rfl, hsz, hP, hK, hD0, hex, hE⟩ := hv
  have hx := B.exec
  have hb := B.bytes
  have hr := B.returns
  have hts0 := atoms_spec (ws := wt yX12_field cX12_field 2 (some .long)) B.pre
  have hts : ∀ w ∈ tb, w.before _ s = true := fun w h => hts0 w (List.mem_cons_of_mem _ h)
  have hown : s.vm.findClass RX12 = some m.cls := findClass_of_methodNamed B.named
  subst hsz
  have hD := hD0.self (sz := s.heap.size)
  generalize hAe : va_A ws s.heap.size = A at hD hE ⊢
  have hA : ∀ q : Nat, s.heap.size ≤ q → A q := fun q h => by rw [← hAe]; exact Or.inr h
  have hS : va_S A s.heap s.heap [] := va_S.rf
  have hl := lv_entry ([.ref h0, .int x1]) (n := 2) (Nat.le_of_ble_eq_true rfl)
  rw [lg_entry_eq]
  generalize (lg_sl ([.ref h0, .int x1]) ++ List.replicate (2 - (lg_sl ([.ref h0, .int x1])).length) Slot.unset).toArray = ls at hl ⊢
  have hl : lv_has ls 2 [(0, .ref h0), (1, .int x1)] := hl
  refine lv_aload_n hx hb dX12_field_0 rfl (lv_at hl 0 rfl) ?_
  obtain ⟨k_1, fs9, hk_1⟩ := gC_of o_h0
  obtain ⟨r0_1, r1_1, r2_1, r3_1, n3_1, r4_1, r5_1, r6_1, r7_1, r8_1, r9_1, c10_1, c11_1, c12_1, c13_1, c14_1, c15_1, c16_1, c17_1, rfl, o_r0_1, o_r1_1, o_r2_1, a_r3_1, f4_1, o_r4_1, o_r5_1, o_r6_1, o_r7_1, o_r8_1, o_r9_1, f11_1, f12_1, f13_1, f14_1, f15_1, f16_1, f17_1, -⟩ := (hG.1 _ _ _ _ hk_1).hX12 rfl
  refine va_get (D := gD g) (ci := 11) (v := .ref r7_1) (C := RX12) (T := TX12) (N := 18) hx hb hts inX12 hown hK hP k_1 hk_1 rfl 7 (by decide) (hts _ kw_286) (fun _ h9 => h9) rfl dX12_field_1 ?_
  refine lv_iload_n hx hb dX12_field_4 rfl (lv_at hl 1 rfl) ?_
  have hFc := gfree hD hS hA
  obtain ⟨k_2, fs_2, hk_2⟩ := gC_of o_r7_1
  refine va_calll (va_runV (As := [.int x1]) (rest := []) ⟨hx, hb, hml, hown, hts⟩ (m_X5_fieldAt l g s.heap.size ws r7_1 (x1) hG o_r7_1) (cwV 1 hts (gd_V kw_363 kw_1051 kw_1052 kw_398 kw_1050) rfl rfl rfl (by decide +kernel) ⟨Nat.le_of_ble_eq_true rfl, Nat.le_of_ble_eq_true rfl⟩) ⟨gblind, va_recv hK hP (ci := 5) (q0 := k_2) rfl hk_2, fun U hU hW9 => gmk hU hW9 hP hK hD hex hE hS hFc⟩ rfl rfl hl.1 rfl (lv_room (Nat.le_of_ble_eq_true rfl)) dX12_field_5 ⟨Nat.le_of_ble_eq_true rfl, Nat.le_of_ble_eq_true rfl⟩) hS (fun q _ h => hFc q h) hFc (fun r_3 u9 t9 H1 locs ht9 hvm9 hw9 hB9 hz9 hk9 hS => ?_)
  have hP : va_P (gD g) cl0 ws H1 := by rw [← ht9]; exact hB9.1
  clear hB9 hz9 hk9 hvm9 ht9 hw9
  generalize H1 = H at hP hS ⊢
  refine W.widen (k := 0) (n := 0) (Nat.le_of_ble_eq_true rfl) (Nat.le_of_ble_eq_true rfl) ?_
  exact W.lret (v := r_3) hx hb hr (fun t9 ht9 hW9 => ⟨⟨_, (), rfl, trivial, ⟨by rw [ht9]; exact hP, hD⟩⟩, hS.F ht9⟩) hS.2.2 dX12_field_8
set_option maxHeartbeats 1000000 in
set_option maxRecDepth 100000 in
theorem m_X12_element (l : Launch) (g : Gm) (sz : Nat) (ws : va_W) (h0 : Nat) (x1 : Int32) (x2 : Int32) (hG : Good g ws) (o_h0 : gC ws h0 11) : Met l yX12_element (wt yX12_element cX12_element 3 (some .int)) ({ frames := 3, cells := 0, slots := 0, locals := 65 }) (va_Pc [.ref h0, .int x1, .int x2] (st_G g sz ws)) (va_Qi (fun (r : Int32) (u9 : va_W) => True) (gQ1 g [(5, 19)] [] none (va_A ws sz) ws) (va_A ws sz)) (0) (0) (va_A ws sz) := by
  refine Met.ofW (cc := cX12_element) (maxL := 3) (ret := (some .int)) (by decide) rfl ?_
  intro p e s m args below meth c s₁ B hml hv
  obtain ⟨rfl, hsz, hP, hK, hD0, hex, hE⟩ := hv
  have hx := B.exec
  have hb := B.bytes
  have hr := B.returns
  have hts0 := atoms_spec (ws := wt yX12_element cX12_element 3 (some .int)) B.pre
  have hts : ∀ w ∈ tb, w.before _ s = true := fun w h => hts0 w (List.mem_cons_of_mem _ h)
  have hown : s.vm.findClass RX12 = some m.cls := findClass_of_methodNamed B.named
  subst hsz
  have hD := hD0.self (sz := s.heap.size)
  generalize hAe : va_A ws s.heap.size = A at hD hE ⊢
  have hA : ∀ q : Nat, s.heap.size ≤ q → A q := fun q h => by rw [← hAe]; exact Or.inr h
  have hS : va_S A s.heap s.heap [] := va_S.rf
  have hl := lv_entry ([.ref h0, .int x1, .int x2]) (n := 3) (Nat.le_of_ble_eq_true rfl)
  rw [lg_entry_eq]
  generalize (lg_sl ([.ref h0, .int x1, .int x2]) ++ List.replicate (3 - (lg_sl ([.ref h0, .int x1, .int x2])).length) Slot.unset).toArray = ls at hl ⊢
  have hl : lv_has ls 3 [(0, .ref h0), (1, .int x1), (2, .int x2)] := hl
  refine lv_aload_n hx hb dX12_element_0 rfl (lv_at hl 0 rfl) ?_
  obtain ⟨k_1, fs9, hk_1⟩ := gC_of o_h0
  obtain ⟨r0_1, r1_1, r2_1, r3_1, n3_1, r4_1, r5_1, r6_1, r7_1, r8_1, r9_1, c10_1, c11_1, c12_1, c13_1, c14_1, c15_1, c16_1, c17_1, rfl, o_r0_1, o_r1_1, o_r2_1, a_r3_1, f4_1, o_r4_1, o_r5_1, o_r6_1, o_r7_1, o_r8_1, o_r9_1, f11_1, f12_1, f13_1, f14_1, f15_1, f16_1, f17_1, -⟩ := (hG.1 _ _ _ _ hk_1).hX12 rfl
  refine va_get (D := gD g) (ci := 11) (v := .ref r7_1) (C := RX12) (T := TX12) (N := 18) hx hb hts inX12 hown hK hP k_1 hk_1 rfl 7 (by decide) (hts _ kw_286) (fun _ h9 => h9) rfl dX12_element_1 ?_
  refine lv_iload_n hx hb dX12_element_4 rfl (lv_at hl 1 rfl) ?_
  refine lv_iload_n hx hb dX12_element_5 rfl (lv_at hl 2 rfl) ?_
  have hFc := gfree hD hS hA
  obtain ⟨k_2, fs_2, hk_2⟩ := gC_of o_r7_1
  refine va_calli (va_runV (As := [.int x1, .int x2]) (rest := []) ⟨hx, hb, hml, hown, hts⟩ (m_X5_elementAt l g s.heap.size ws r7_1 (x1) (x2) hG o_r7_1) (cwV 2 hts (gd_V kw_345 kw_1033 kw_1034 kw_398 kw_1032) rfl rfl rfl (by decide +kernel) ⟨Nat.le_of_ble_eq_true rfl, Nat.le_of_ble_eq_true rfl⟩) ⟨gblind, va_recv hK hP (ci := 5) (q0 := k_2) rfl hk_2, fun U hU hW9 => gmk hU hW9 hP hK hD hex hE hS hFc⟩ rfl rfl hl.1 rfl (lv_room (Nat.le_of_ble_eq_true rfl)) dX12_element_6 ⟨Nat.le_of_ble_eq_true rfl, Nat.le_of_ble_eq_true rfl⟩) hS (fun q _ h => hFc q h) hFc (fun r_3 ws_4 t9 H1 locs ht9 hvm9 hw9 hB9 hz9 hk9 hS => ?_)
  obtain ⟨E_5, Fr_6, hG, hP1, hD1⟩ := hB9
  have hP : va_P (gD g) cl0 ws_4 H1 := by rw [← ht9]; exact hP1
  have hD : va_D A ws_4 := hD1.weaken (fun _ _ _ h => hFc _ h)
  clear hP1 hD1 hz9 hk9 hvm9 ht9 hw9
  generalize H1 = H at hP hS ⊢
  have aa_9 := a_r3_1
  have o_h0 := E_5.1 _ _ o_h0
  refine W.widen (k := 0) (n := 0) (Nat.le_of_ble_eq_true rfl) (Nat.le_of_ble_eq_true rfl) ?_
  exact W.iret (v := r_3) hx hb hr (fun t9 ht9 hW9 => ⟨⟨_, ws_4, rfl, trivial, ⟨E_5, Fr_6, hG, by rw [ht9]; exact hP, hD⟩⟩, hS.F ht9⟩) hS.2.2 dX12_element_9
set_option maxHeartbeats 1000000 in
set_option maxRecDepth 100000 in
theorem m_X12_arrayLength (l : Launch) (g : Gm) (sz : Nat) (ws : va_W) (h0 : Nat) (x1 : Int32) (hG : Good g ws) (o_h0 : gC ws h0 11) : Met l yX12_arrayLength (wt yX12_arrayLength cX12_arrayLength 2 (some .int)) ({ frames := 2, cells := 0, slots := 0, locals := 43 }) (va_Pc [.ref h0, .int x1] (st_G g sz ws)) (va_Qi (fun (r : Int32) (u9 : Unit) => True) (gQ0 g (va_A ws sz) ws) (va_A ws sz)) (0) (0) (va_A ws sz) := by
  refine Met.ofW (cc := cX12_arrayLength) (maxL := 2) (ret := (some .int)) (by decide) rfl ?_
  intro p e s m args below meth c s₁ B hml hv
  obtain ⟨rfl, hsz, hP, hK, hD0, hex, hE⟩ := hv
  have hx := B.exec
  have hb := B.bytes
  have hr := B.returns
  have hts0 := atoms_spec (ws := wt yX12_arrayLength cX12_arrayLength 2 (some .int)) B.pre
  have hts : ∀ w ∈ tb, w.before _ s = true := fun w h => hts0 w (List.mem_cons_of_mem _ h)
  have hown : s.vm.findClass RX12 = some m.cls := findClass_of_methodNamed B.named
  subst hsz
  have hD := hD0.self (sz := s.heap.size)
  generalize hAe : va_A ws s.heap.size = A at hD hE ⊢
  have hA : ∀ q : Nat, s.heap.size ≤ q → A q := fun q h => by rw [← hAe]; exact Or.inr h
  have hS : va_S A s.heap s.heap [] := va_S.rf
  have hl := lv_entry ([.ref h0, .int x1]) (n := 2) (Nat.le_of_ble_eq_true rfl)
  rw [lg_entry_eq]
  generalize (lg_sl ([.ref h0, .int x1]) ++ List.replicate (2 - (lg_sl ([.ref h0, .int x1])).length) Slot.unset).toArray = ls at hl ⊢
  have hl : lv_has ls 2 [(0, .ref h0), (1, .int x1)] := hl
  refine lv_aload_n hx hb dX12_arrayLength_0 rfl (lv_at hl 0 rfl) ?_
  obtain ⟨k_1, fs9, hk_1⟩ := gC_of o_h0
  obtain ⟨r0_1, r1_1, r2_1, r3_1, n3_1, r4_1, r5_1, r6_1, r7_1, r8_1, r9_1, c10_1, c11_1, c12_1, c13_1, c14_1, c15_1, c16_1, c17_1, rfl, o_r0_1, o_r1_1, o_r2_1, a_r3_1, f4_1, o_r4_1, o_r5_1, o_r6_1, o_r7_1, o_r8_1, o_r9_1, f11_1, f12_1, f13_1, f14_1, f15_1, f16_1, f17_1, -⟩ := (hG.1 _ _ _ _ hk_1).hX12 rfl
  refine va_get (D := gD g) (ci := 11) (v := .ref r7_1) (C := RX12) (T := TX12) (N := 18) hx hb hts inX12 hown hK hP k_1 hk_1 rfl 7 (by decide) (hts _ kw_286) (fun _ h9 => h9) rfl dX12_arrayLength_1 ?_
  refine lv_iload_n hx hb dX12_arrayLength_4 rfl (lv_at hl 1 rfl) ?_
  have hFc := gfree hD hS hA
  obtain ⟨k_2, fs_2, hk_2⟩ := gC_of o_r7_1
  refine va_calli (va_runV (As := [.int x1]) (rest := []) ⟨hx, hb, hml, hown, hts⟩ (m_X5_lengthOf l g s.heap.size ws r7_1 (x1) hG o_r7_1) (cwV 1 hts (gd_V kw_291 kw_1088 kw_1089 kw_398 kw_1087) rfl rfl rfl (by decide +kernel) ⟨Nat.le_of_ble_eq_true rfl, Nat.le_of_ble_eq_true rfl⟩) ⟨gblind, va_recv hK hP (ci := 5) (q0 := k_2) rfl hk_2, fun U hU hW9 => gmk hU hW9 hP hK hD hex hE hS hFc⟩ rfl rfl hl.1 rfl (lv_room (Nat.le_of_ble_eq_true rfl)) dX12_arrayLength_5 ⟨Nat.le_of_ble_eq_true rfl, Nat.le_of_ble_eq_true rfl⟩) hS (fun q _ h => hFc q h) hFc (fun r_3 u9 t9 H1 locs ht9 hvm9 hw9 hB9 hz9 hk9 hS => ?_)
  have hP : va_P (gD g) cl0 ws H1 := by rw [← ht9]; exact hB9.1
  clear hB9 hz9 hk9 hvm9 ht9 hw9
  generalize H1 = H at hP hS ⊢
  refine W.widen (k := 0) (n := 0) (Nat.le_of_ble_eq_true rfl) (Nat.le_of_ble_eq_true rfl) ?_
  exact W.iret (v := r_3) hx hb hr (fun t9 ht9 hW9 => ⟨⟨_, (), rfl, trivial, ⟨by rw [ht9]; exact hP, hD⟩⟩, hS.F ht9⟩) hS.2.2 dX12_arrayLength_8
set_option maxHeartbeats 1000000 in
set_option maxRecDepth 100000 in
theorem m_X12_applied (l : Launch) (g : Gm) (sz : Nat) (ws : va_W) (h0 : Nat) (x1 : Int32) (hG : Good g ws) (o_h0 : gC ws h0 11) : Met l yX12_applied (wt yX12_applied cX12_applied 2 (some .int)) ({ frames := 1, cells := 0, slots := 0, locals := 21 }) (va_Pc [.ref h0, .int x1] (st_G g sz ws)) (va_Qi (fun (r : Int32) (u9 : Unit) => True) (gQ0 g (va_A ws sz) ws) (va_A ws sz)) (0) (0) (va_A ws sz) := by
  refine Met.ofW (cc := cX12_applied) (maxL := 2) (ret := (some .int)) (by decide) rfl ?_
  intro p e s m args below meth c s₁ B hml hv
  obtain ⟨rfl, hsz, hP, hK, hD0, hex, hE⟩ := hv
  have hx := B.exec
  have hb := B.bytes
  have hr := B.returns
  have hts0 := atoms_spec (ws := wt yX12_applied cX12_applied 2 (some .int)) B.pre
  have hts : ∀ w ∈ tb, w.before _ s = true := fun w h => hts0 w (List.mem_cons_of_mem _ h)
  have hown : s.vm.findClass RX12 = some m.cls := findClass_of_methodNamed B.named
  subst hsz
  have hD := hD0.self (sz := s.heap.size)
  generalize hAe : va_A ws s.heap.size = A at hD hE ⊢
  have hA : ∀ q : Nat, s.heap.size ≤ q → A q := fun q h => by rw [← hAe]; exact Or.inr h
  have hS : va_S A s.heap s.heap [] := va_S.rf
  have hl := lv_entry ([.ref h0, .int x1]) (n := 2) (Nat.le_of_ble_eq_true rfl)
  rw [lg_entry_eq]
  generalize (lg_sl ([.ref h0, .int x1]) ++ List.replicate (2 - (lg_sl ([.ref h0, .int x1])).length) Slot.unset).toArray = ls at hl ⊢
  have hl : lv_has ls 2 [(0, .ref h0), (1, .int x1)] := hl
  refine lv_aload_n hx hb dX12_applied_0 rfl (lv_at hl 0 rfl) ?_
  obtain ⟨k_1, fs9, hk_1⟩ := gC_of o_h0
  obtain ⟨r0_1, r1_1, r2_1, r3_1, n3_1, r4_1, r5_1, r6_1, r7_1, r8_1, r9_1, c10_1, c11_1, c12_1, c13_1, c14_1, c15_1, c16_1, c17_1, rfl, o_r0_1, o_r1_1, o_r2_1, a_r3_1, f4_1, o_r4_1, o_r5_1, o_r6_1, o_r7_1, o_r8_1, o_r9_1, f11_1, f12_1, f13_1, f14_1, f15_1, f16_1, f17_1, -⟩ := (hG.1 _ _ _ _ hk_1).hX12 rfl
  refine va_get (D := gD g) (ci := 11) (v := .ref r9_1) (C := RX12) (T := TX12) (N := 18) hx hb hts inX12 hown hK hP k_1 hk_1 rfl 9 (by decide) (hts _ kw_281) (fun _ h9 => h9) rfl dX12_applied_1 ?_
  refine lv_iload_n hx hb dX12_applied_4 rfl (lv_at hl 1 rfl) ?_
  have hFc := gfree hD hS hA
  obtain ⟨k_2, fs_2, hk_2⟩ := gC_of o_r9_1
  refine va_calli (va_runV (As := [.int x1]) (rest := []) ⟨hx, hb, hml, hown, hts⟩ (m_X9_appliedAt l g s.heap.size ws r9_1 (x1) hG o_r9_1) (cwV 1 hts (gd_V kw_282 kw_1545 kw_1546 kw_404 kw_1544) rfl rfl rfl (by decide +kernel) ⟨Nat.le_of_ble_eq_true rfl, Nat.le_of_ble_eq_true rfl⟩) ⟨gblind, va_recv hK hP (ci := 8) (q0 := k_2) rfl hk_2, fun U hU hW9 => gmk hU hW9 hP hK hD hex hE hS hFc⟩ rfl rfl hl.1 rfl (lv_room (Nat.le_of_ble_eq_true rfl)) dX12_applied_5 ⟨Nat.le_of_ble_eq_true rfl, Nat.le_of_ble_eq_true rfl⟩) hS (fun q _ h => hFc q h) hFc (fun r_3 u9 t9 H1 locs ht9 hvm9 hw9 hB9 hz9 hk9 hS => ?_)
  have hP : va_P (gD g) cl0 ws H1 := by rw [← ht9]; exact hB9.1
  clear hB9 hz9 hk9 hvm9 ht9 hw9
  generalize H1 = H at hP hS ⊢
  refine W.widen (k := 0) (n := 0) (Nat.le_of_ble_eq_true rfl) (Nat.le_of_ble_eq_true rfl) ?_
  exact W.iret (v := r_3) hx hb hr (fun t9 ht9 hW9 => ⟨⟨_, (), rfl, trivial, ⟨by rw [ht9]; exact hP, hD⟩⟩, hS.F ht9⟩) hS.2.2 dX12_applied_8
set_option maxHeartbeats 1000000 in
set_option maxRecDepth 100000 in
theorem m_X12_strays (l : Launch) (g : Gm) (sz : Nat) (ws : va_W) (h0 : Nat) (hG : Good g ws) (o_h0 : gC ws h0 11) : Met l yX12_strays (wt yX12_strays cX12_strays 1 (some .int)) ({ frames := 0, cells := 0, slots := 0, locals := 0 }) (va_Pc [.ref h0] (st_G g sz ws)) (va_Qi (fun (r : Int32) (u9 : Unit) => True) (gQ0 g (va_A ws sz) ws) (va_A ws sz)) (0) (0) (va_A ws sz) := by
  refine Met.ofW (cc := cX12_strays) (maxL := 1) (ret := (some .int)) (by decide) rfl ?_
  intro p e s m args below meth c s₁ B hml hv
  obtain ⟨rfl, hsz, hP, hK, hD0, hex, hE⟩ := hv
  have hx := B.exec
  have hb := B.bytes
  have hr := B.returns
  have hts0 := atoms_spec (ws := wt yX12_strays cX12_strays 1 (some .int)) B.pre
  have hts : ∀ w ∈ tb, w.before _ s = true := fun w h => hts0 w (List.mem_cons_of_mem _ h)
  have hown : s.vm.findClass RX12 = some m.cls := findClass_of_methodNamed B.named
  subst hsz
  have hD := hD0.self (sz := s.heap.size)
  generalize hAe : va_A ws s.heap.size = A at hD hE ⊢
  have hA : ∀ q : Nat, s.heap.size ≤ q → A q := fun q h => by rw [← hAe]; exact Or.inr h
  have hS : va_S A s.heap s.heap [] := va_S.rf
  have hl := lv_entry ([.ref h0]) (n := 1) (Nat.le_of_ble_eq_true rfl)
  rw [lg_entry_eq]
  generalize (lg_sl ([.ref h0]) ++ List.replicate (1 - (lg_sl ([.ref h0])).length) Slot.unset).toArray = ls at hl ⊢
  have hl : lv_has ls 1 [(0, .ref h0)] := hl
  refine lv_aload_n hx hb dX12_strays_0 rfl (lv_at hl 0 rfl) ?_
  obtain ⟨k_1, fs9, hk_1⟩ := gC_of o_h0
  obtain ⟨r0_1, r1_1, r2_1, r3_1, n3_1, r4_1, r5_1, r6_1, r7_1, r8_1, r9_1, c10_1, c11_1, c12_1, c13_1, c14_1, c15_1, c16_1, c17_1, rfl, o_r0_1, o_r1_1, o_r2_1, a_r3_1, f4_1, o_r4_1, o_r5_1, o_r6_1, o_r7_1, o_r8_1, o_r9_1, f11_1, f12_1, f13_1, f14_1, f15_1, f16_1, f17_1, -⟩ := (hG.1 _ _ _ _ hk_1).hX12 rfl
  refine va_get (D := gD g) (ci := 11) (v := .ref r7_1) (C := RX12) (T := TX12) (N := 18) hx hb hts inX12 hown hK hP k_1 hk_1 rfl 7 (by decide) (hts _ kw_286) (fun _ h9 => h9) rfl dX12_strays_1 ?_
  obtain ⟨k_2, fs9, hk_2⟩ := gC_of o_r7_1
  obtain ⟨v0_2, r1_2, n1_2, r2_2, n2_2, c3_2, r4_2, n4_2, c5_2, r6_2, n6_2, c7_2, r8_2, n8_2, r9_2, n9_2, r10_2, n10_2, c11_2, v12_2, c13_2, c14_2, c15_2, l16_2, c17_2, c18_2, c19_2, rfl, o_v0_2, F_v0_2, a_r1_2, f3_2, a_r2_2, f5_2, a_r4_2, f7_2, a_r6_2, f9_2, a_r8_2, f11_2, a_r9_2, f13_2, a_r10_2, f15_2, o_v12_2, f17_2, f18_2, f19_2, f20_2, f21_2, f22_2, f23_2, f24_2, f25_2, f26_2, f27_2, f28_2, f29_2, f30_2, f31_2, -⟩ := (hG.1 _ _ _ _ hk_2).hX5 rfl
  refine va_get (D := gD g) (ci := 5) (v := .int c19_2) (C := RX5) (T := TX5) (N := 20) hx hb hts inX5 hown hK hP k_2 hk_2 rfl 19 (by decide) (hts _ kw_462) (fun _ h9 => h9) rfl dX12_strays_4 ?_
  refine W.widen (k := 0) (n := 0) (Nat.le_of_ble_eq_true rfl) (Nat.le_of_ble_eq_true rfl) ?_
  exact W.iret (v := c19_2) hx hb hr (fun t9 ht9 hW9 => ⟨⟨_, (), rfl, trivial, ⟨by rw [ht9]; exact hP, hD⟩⟩, hS.F ht9⟩) hS.2.2 dX12_strays_7
set_option maxHeartbeats 1000000 in
set_option maxRecDepth 100000 in
theorem m_X12_unitAt (l : Launch) (g : Gm) (sz : Nat) (ws : va_W) (h0 : Nat) (x1 : Int32) (hG : Good g ws) (o_h0 : gC ws h0 11) : Met l yX12_unitAt (wt yX12_unitAt cX12_unitAt 2 (some (.object "CodeFoundry$Unit"))) ({ frames := 0, cells := 0, slots := 0, locals := 0 }) (va_Pc [.ref h0, .int x1] (st_G g sz ws)) (va_Qq (fun (r : Option Nat) (u9 : Unit) => ∀ b, r = some b → gC ws b 9 ∧ full ws b) (gQ0 g (va_A ws sz) ws) (va_A ws sz)) (0) (0) (va_A ws sz) := by
  refine Met.ofW (cc := cX12_unitAt) (maxL := 2) (ret := (some (.object "CodeFoundry$Unit"))) (by decide) rfl ?_
  intro p e s m args below meth c s₁ B hml hv
  obtain ⟨rfl, hsz, hP, hK, hD0, hex, hE⟩ := hv
  have hx := B.exec
  have hb := B.bytes
  have hr := B.returns
  have hts0 := atoms_spec (ws := wt yX12_unitAt cX12_unitAt 2 (some (.object "CodeFoundry$Unit"))) B.pre
  have hts : ∀ w ∈ tb, w.before _ s = true := fun w h => hts0 w (List.mem_cons_of_mem _ h)
  have hown : s.vm.findClass RX12 = some m.cls := findClass_of_methodNamed B.named
  subst hsz
  have hD := hD0.self (sz := s.heap.size)
  generalize hAe : va_A ws s.heap.size = A at hD hE ⊢
  have hA : ∀ q : Nat, s.heap.size ≤ q → A q := fun q h => by rw [← hAe]; exact Or.inr h
  have hS : va_S A s.heap s.heap [] := va_S.rf
  have hl := lv_entry ([.ref h0, .int x1]) (n := 2) (Nat.le_of_ble_eq_true rfl)
  rw [lg_entry_eq]
  generalize (lg_sl ([.ref h0, .int x1]) ++ List.replicate (2 - (lg_sl ([.ref h0, .int x1])).length) Slot.unset).toArray = ls at hl ⊢
  have hl : lv_has ls 2 [(0, .ref h0), (1, .int x1)] := hl
  refine lv_iload_n hx hb dX12_unitAt_0 rfl (lv_at hl 1 rfl) ?_
  refine lv_if_lt (tgt := 12) hx hb dX12_unitAt_1 (by decide) (fun c_1 => ?_) (fun c_1 => ?_)
  · refine lv_null hx hb dX12_unitAt_12 ?_
    refine lv_goto (tgt := 22) hx hb dX12_unitAt_13 (by decide) ?_
    refine W.widen (k := 0) (n := 0) (Nat.le_of_ble_eq_true rfl) (Nat.le_of_ble_eq_true rfl) ?_
    exact W.aret (v := .null) hx hb hr (Or.inl ⟨_, rfl⟩) (Or.inl rfl) (fun t9 ht9 hW9 => ⟨⟨none, (), rfl, fun b h9 => (by cases h9), ⟨by rw [ht9]; exact hP, hD⟩⟩, hS.F ht9⟩) hS.2.2 dX12_unitAt_22
  · refine lv_iload_n hx hb dX12_unitAt_4 rfl (lv_at hl 1 rfl) ?_
    refine lv_aload_n hx hb dX12_unitAt_5 rfl (lv_at hl 0 rfl) ?_
    obtain ⟨k_2, fs9, hk_2⟩ := gC_of o_h0
    obtain ⟨r0_2, r1_2, r2_2, r3_2, n3_2, r4_2, r5_2, r6_2, r7_2, r8_2, r9_2, c10_2, c11_2, c12_2, c13_2, c14_2, c15_2, c16_2, c17_2, rfl, o_r0_2, o_r1_2, o_r2_2, a_r3_2, f4_2, o_r4_2, o_r5_2, o_r6_2, o_r7_2, o_r8_2, o_r9_2, f11_2, f12_2, f13_2, f14_2, f15_2, f16_2, f17_2, -⟩ := (hG.1 _ _ _ _ hk_2).hX12 rfl
    refine va_get (D := gD g) (ci := 11) (v := .int c11_2) (C := RX12) (T := TX12) (N := 18) hx hb hts inX12 hown hK hP k_2 hk_2 rfl 11 (by decide) (hts _ kw_317) (fun _ h9 => h9) rfl dX12_unitAt_6 ?_
    refine lv_icmp_lt (tgt := 16) hx hb dX12_unitAt_9 (by decide) (fun c_3 => ?_) (fun c_3 => ?_)
    · refine lv_aload_n hx hb dX12_unitAt_16 rfl (lv_at hl 0 rfl) ?_
      refine va_get (D := gD g) (ci := 11) (v := .ref r3_2) (C := RX12) (T := TX12) (N := 18) hx hb hts inX12 hown hK hP k_2 hk_2 rfl 3 (by decide) (hts _ kw_386) (fun _ h9 => h9) rfl dX12_unitAt_17 ?_
      refine lv_iload_n hx hb dX12_unitAt_20 rfl (lv_at hl 1 rfl) ?_
      obtain ⟨k_4, f_4, hk_4⟩ := gR_of a_r3_2
      refine va_aldq hx hb hK hP k_4 4 hk_4 rfl (i_in2 (by have e0 : (0 : Int32).toInt = 0 := (by decide); have q_c_1 := i_nlt c_1; have q_f4_2 := f4_2; have q_f11_2 := f11_2; have q_c_3 := i_lt c_3; have q_f12_2 := f12_2; have q_f13_2 := f13_2; have g_c11_2 := i_rg c11_2; have g_x1 := i_rg x1; omega)) dX12_unitAt_21 ?_
      obtain ⟨v_5, ev_5⟩ : ∃ z, f_4 (x1 : Int32).toNatClampNeg = z := ⟨_, rfl⟩
      rw [ev_5]
      have o_v_5 : ∀ b, v_5 = some b → gC ws b 9 := fun b h => ((hG.2.1 _ _ _ _ _ hk_4).1 rfl _ b (ev_5.trans h)).1
      have F_v_5 : ∀ b, v_5 = some b → full ws b := fun b h => ((hG.2.1 _ _ _ _ _ hk_4).1 rfl _ b (ev_5.trans h)).2
      rcases v_5 with _ | b_6
      · skip
        refine W.widen (k := 0) (n := 0) (Nat.le_of_ble_eq_true rfl) (Nat.le_of_ble_eq_true rfl) ?_
        exact W.aret (v := .null) hx hb hr (Or.inl ⟨_, rfl⟩) (Or.inl rfl) (fun t9 ht9 hW9 => ⟨⟨none, (), rfl, fun b h9 => (by cases h9), ⟨by rw [ht9]; exact hP, hD⟩⟩, hS.F ht9⟩) hS.2.2 dX12_unitAt_22
      · have o_b_6 := o_v_5 _ rfl
        have F_b_6 := F_v_5 _ rfl
        refine W.widen (k := 0) (n := 0) (Nat.le_of_ble_eq_true rfl) (Nat.le_of_ble_eq_true rfl) ?_
        exact W.aret (v := .ref b_6) hx hb hr (Or.inl ⟨_, rfl⟩) (Or.inr ⟨_, rfl⟩) (fun t9 ht9 hW9 => ⟨⟨some b_6, (), rfl, (fun b h9 => by cases h9; exact ⟨o_b_6, F_b_6⟩), ⟨by rw [ht9]; exact hP, hD⟩⟩, hS.F ht9⟩) hS.2.2 dX12_unitAt_22
    · refine lv_null hx hb dX12_unitAt_12 ?_
      refine lv_goto (tgt := 22) hx hb dX12_unitAt_13 (by decide) ?_
      refine W.widen (k := 0) (n := 0) (Nat.le_of_ble_eq_true rfl) (Nat.le_of_ble_eq_true rfl) ?_
      exact W.aret (v := .null) hx hb hr (Or.inl ⟨_, rfl⟩) (Or.inl rfl) (fun t9 ht9 hW9 => ⟨⟨none, (), rfl, fun b h9 => (by cases h9), ⟨by rw [ht9]; exact hP, hD⟩⟩, hS.F ht9⟩) hS.2.2 dX12_unitAt_22
set_option maxHeartbeats 1000000 in
set_option maxRecDepth 100000 in
theorem m_X12_soundUnitAt (l : Launch) (g : Gm) (sz : Nat) (ws : va_W) (h0 : Nat) (x1 : Int32) (hG : Good g ws) (o_h0 : gC ws h0 11) : Met l yX12_soundUnitAt (wt yX12_soundUnitAt cX12_soundUnitAt 3 (some (.object "CodeFoundry$Unit"))) ({ frames := 1, cells := 0, slots := 0, locals := 21 }) (va_Pc [.ref h0, .int x1] (st_G g sz ws)) (va_Qq (fun (r : Option Nat) (u9 : Unit) => ∀ b, r = some b → gC ws b 9 ∧ full ws b) (gQ0 g (va_A ws sz) ws) (va_A ws sz)) (0) (0) (va_A ws sz) := by
  refine Met.ofW (cc := cX12_soundUnitAt) (maxL := 3) (ret := (some (.object "CodeFoundry$Unit"))) (by decide) rfl ?_
  intro p e s m args below meth c s₁ B hml hv
  obtain ⟨rfl, hsz, hP, hK, hD0, hex, hE⟩ := hv
  have hx := B.exec
  have hb := B.bytes
  have hr := B.returns
  have hts0 := atoms_spec (ws := wt yX12_soundUnitAt cX12_soundUnitAt 3 (some (.object "CodeFoundry$Unit"))) B.pre
  have hts : ∀ w ∈ tb, w.before _ s = true := fun w h => hts0 w (List.mem_cons_of_mem _ h)
  have hown : s.vm.findClass RX12 = some m.cls := findClass_of_methodNamed B.named
  subst hsz
  have hD := hD0.self (sz := s.heap.size)
  generalize hAe : va_A ws s.heap.size = A at hD hE ⊢
  have hA : ∀ q : Nat, s.heap.size ≤ q → A q := fun q h => by rw [← hAe]; exact Or.inr h
  have hS : va_S A s.heap s.heap [] := va_S.rf
  have hl := lv_entry ([.ref h0, .int x1]) (n := 3) (Nat.le_of_ble_eq_true rfl)
  rw [lg_entry_eq]
  generalize (lg_sl ([.ref h0, .int x1]) ++ List.replicate (3 - (lg_sl ([.ref h0, .int x1])).length) Slot.unset).toArray = ls at hl ⊢
  have hl : lv_has ls 3 [(0, .ref h0), (1, .int x1)] := hl
  refine lv_aload_n hx hb dX12_soundUnitAt_0 rfl (lv_at hl 0 rfl) ?_
  refine lv_iload_n hx hb dX12_soundUnitAt_1 rfl (lv_at hl 1 rfl) ?_
  have hFc := gfree hD hS hA
  obtain ⟨k_1, fs_1, hk_1⟩ := gC_of o_h0
  refine va_callq (va_runV (As := [.int x1]) (rest := []) ⟨hx, hb, hml, hown, hts⟩ (m_X12_unitAt l g s.heap.size ws h0 (x1) hG o_h0) (cwV 1 hts (gd_V kw_431 kw_464 kw_465 kw_280 kw_463) rfl rfl rfl (by decide +kernel) ⟨Nat.le_of_ble_eq_true rfl, Nat.le_of_ble_eq_true rfl⟩) ⟨gblind, va_recv hK hP (ci := 11) (q0 := k_1) rfl hk_1, fun U hU hW9 => gmk hU hW9 hP hK hD hex hE hS hFc⟩ rfl rfl hl.1 rfl (lv_room (Nat.le_of_ble_eq_true rfl)) dX12_soundUnitAt_2 ⟨Nat.le_of_ble_eq_true rfl, Nat.le_of_ble_eq_true rfl⟩) hS (fun q _ h => hFc q h) hFc (fun r_2 u9 t9 H1 locs ht9 hvm9 hw9 hB9 hz9 hk9 hS => ?_)
  have hP : va_P (gD g) cl0 ws H1 := by rw [← ht9]; exact hB9.1
  have o_r_2 := hw9
  clear hB9 hz9 hk9 hvm9 ht9 hw9
  generalize H1 = H at hP hS ⊢
  have F_r_2 := fun b h => (o_r_2 b h).2
  have o_r_2 := fun b h => (o_r_2 b h).1
  rcases r_2 with _ | b_3
  · skip
    refine lv_astore_nN (lv' := [(2, .null), (0, .ref h0), (1, .int x1)]) hx hb dX12_soundUnitAt_5 rfl hl (by decide) rfl (fun ls hl => ?_)
    refine lv_aload_nN hx hb dX12_soundUnitAt_6 rfl (lv_at hl 0 rfl) ?_
    refine lv_ifnullN (tgt := 24) hx hb dX12_soundUnitAt_7 (by decide) ?_
    refine lv_null hx hb dX12_soundUnitAt_24 ?_
    refine lv_goto (tgt := 29) hx hb dX12_soundUnitAt_25 (by decide) ?_
    refine W.widen (k := 0) (n := 0) (Nat.le_of_ble_eq_true rfl) (Nat.le_of_ble_eq_true rfl) ?_
    exact W.aret (v := .null) hx hb hr (Or.inl ⟨_, rfl⟩) (Or.inl rfl) (fun t9 ht9 hW9 => ⟨⟨none, (), rfl, fun b h9 => (by cases h9), ⟨by rw [ht9]; exact hP, hD⟩⟩, hS.F ht9⟩) hS.2.2 dX12_soundUnitAt_29
  · have o_b_3 := o_r_2 _ rfl
    have F_b_3 := F_r_2 _ rfl
    refine lv_astore_n (lv' := [(2, .ref b_3), (0, .ref h0), (1, .int x1)]) hx hb dX12_soundUnitAt_5 rfl hl (by decide) rfl (fun ls hl => ?_)
    refine lv_aload_n hx hb dX12_soundUnitAt_6 rfl (lv_at hl 0 rfl) ?_
    refine lv_ifnull hx hb dX12_soundUnitAt_7 ?_
    refine lv_aload_n hx hb dX12_soundUnitAt_10 rfl (lv_at hl 0 rfl) ?_
    obtain ⟨k_4, fs9, hk_4⟩ := gC_of o_b_3
    obtain ⟨r0_4, n0_4, c1_4, c2_4, c3_4, c4_4, r5_4, n5_4, r6_4, n6_4, r7_4, n7_4, c8_4, r9_4, n9_4, r10_4, n10_4, r11_4, n11_4, r12_4, n12_4, r13_4, n13_4, c14_4, c15_4, c16_4, c17_4, rfl, a_r0_4, f1_4, a_r5_4, f3_4, a_r6_4, f5_4, a_r7_4, f7_4, a_r9_4, f9_4, a_r10_4, f11_4, a_r11_4, f13_4, a_r12_4, f15_4, a_r13_4, f17_4, hz_c15_4, f19_4, f20_4, f21_4, f22_4, f23_4, f24_4, f25_4, f26_4, f27_4, f28_4, -⟩ := (hG.1 _ _ _ _ hk_4).hX10 rfl
    refine va_get (D := gD g) (ci := 9) (v := .int c15_4) (C := RX10) (T := TX10) (N := 18) hx hb hts inX10 hown hK hP k_4 hk_4 rfl 15 (by decide) (hts _ kw_449) (fun _ h9 => h9) rfl dX12_soundUnitAt_11 ?_
    refine lv_if_eq (tgt := 24) hx hb dX12_soundUnitAt_14 (by decide) (fun c_5 => ?_) (fun c_5 => ?_)
    · refine lv_null hx hb dX12_soundUnitAt_24 ?_
      refine lv_goto (tgt := 29) hx hb dX12_soundUnitAt_25 (by decide) ?_
      refine W.widen (k := 0) (n := 0) (Nat.le_of_ble_eq_true rfl) (Nat.le_of_ble_eq_true rfl) ?_
      exact W.aret (v := .null) hx hb hr (Or.inl ⟨_, rfl⟩) (Or.inl rfl) (fun t9 ht9 hW9 => ⟨⟨none, (), rfl, fun b h9 => (by cases h9), ⟨by rw [ht9]; exact hP, hD⟩⟩, hS.F ht9⟩) hS.2.2 dX12_soundUnitAt_29
    · refine lv_aload_n hx hb dX12_soundUnitAt_17 rfl (lv_at hl 0 rfl) ?_
      refine va_get (D := gD g) (ci := 9) (v := .int c16_4) (C := RX10) (T := TX10) (N := 18) hx hb hts inX10 hown hK hP k_4 hk_4 rfl 16 (by decide) (hts _ kw_450) (fun _ h9 => h9) rfl dX12_soundUnitAt_18 ?_
      refine lv_if_lt (tgt := 28) hx hb dX12_soundUnitAt_21 (by decide) (fun c_6 => ?_) (fun c_6 => ?_)
      · refine lv_aload_n hx hb dX12_soundUnitAt_28 rfl (lv_at hl 0 rfl) ?_
        refine W.widen (k := 0) (n := 0) (Nat.le_of_ble_eq_true rfl) (Nat.le_of_ble_eq_true rfl) ?_
        exact W.aret (v := .ref b_3) hx hb hr (Or.inl ⟨_, rfl⟩) (Or.inr ⟨_, rfl⟩) (fun t9 ht9 hW9 => ⟨⟨some b_3, (), rfl, (fun b h9 => by cases h9; exact ⟨o_b_3, F_b_3⟩), ⟨by rw [ht9]; exact hP, hD⟩⟩, hS.F ht9⟩) hS.2.2 dX12_soundUnitAt_29
      · refine lv_null hx hb dX12_soundUnitAt_24 ?_
        refine lv_goto (tgt := 29) hx hb dX12_soundUnitAt_25 (by decide) ?_
        refine W.widen (k := 0) (n := 0) (Nat.le_of_ble_eq_true rfl) (Nat.le_of_ble_eq_true rfl) ?_
        exact W.aret (v := .null) hx hb hr (Or.inl ⟨_, rfl⟩) (Or.inl rfl) (fun t9 ht9 hW9 => ⟨⟨none, (), rfl, fun b h9 => (by cases h9), ⟨by rw [ht9]; exact hP, hD⟩⟩, hS.F ht9⟩) hS.2.2 dX12_soundUnitAt_29
set_option maxHeartbeats 1000000 in
set_option maxRecDepth 100000 in
theorem m_X12_rowAt (l : Launch) (g : Gm) (sz : Nat) (ws : va_W) (h0 : Nat) (x1 : Int32) (x2 : Int32) (hG : Good g ws) (o_h0 : gC ws h0 11) : Met l yX12_rowAt (wt yX12_rowAt cX12_rowAt 4 (some (.object "CodeFoundry$Row"))) ({ frames := 1, cells := 0, slots := 0, locals := 21 }) (va_Pc [.ref h0, .int x1, .int x2] (st_G g sz ws)) (va_Qq (fun (r : Option Nat) (u9 : Unit) => ∀ b, r = some b → gC ws b 7) (gQ0 g (va_A ws sz) ws) (va_A ws sz)) (0) (0) (va_A ws sz) := by
  refine Met.ofW (cc := cX12_rowAt) (maxL := 4) (ret := (some (.object "CodeFoundry$Row"))) (by decide) rfl ?_
  intro p e s m args below meth c s₁ B hml hv
  obtain ⟨rfl, hsz, hP, hK, hD0, hex, hE⟩ := hv
  have hx := B.exec
  have hb := B.bytes
  have hr := B.returns
  have hts0 := atoms_spec (ws := wt yX12_rowAt cX12_rowAt 4 (some (.object "CodeFoundry$Row"))) B.pre
  have hts : ∀ w ∈ tb, w.before _ s = true := fun w h => hts0 w (List.mem_cons_of_mem _ h)
  have hown : s.vm.findClass RX12 = some m.cls := findClass_of_methodNamed B.named
  subst hsz
  have hD := hD0.self (sz := s.heap.size)
  generalize hAe : va_A ws s.heap.size = A at hD hE ⊢
  have hA : ∀ q : Nat, s.heap.size ≤ q → A q := fun q h => by rw [← hAe]; exact Or.inr h
  have hS : va_S A s.heap s.heap [] := va_S.rf
  have hl := lv_entry ([.ref h0, .int x1, .int x2]) (n := 4) (Nat.le_of_ble_eq_true rfl)
  rw [lg_entry_eq]
  generalize (lg_sl ([.ref h0, .int x1, .int x2]) ++ List.replicate (4 - (lg_sl ([.ref h0, .int x1, .int x2])).length) Slot.unset).toArray = ls at hl ⊢
  have hl : lv_has ls 4 [(0, .ref h0), (1, .int x1), (2, .int x2)] := hl
  refine lv_aload_n hx hb dX12_rowAt_0 rfl (lv_at hl 0 rfl) ?_
  refine lv_iload_n hx hb dX12_rowAt_1 rfl (lv_at hl 1 rfl) ?_
  have hFc := gfree hD hS hA
  obtain ⟨k_1, fs_1, hk_1⟩ := gC_of o_h0
  refine va_callq (va_runV (As := [.int x1]) (rest := []) ⟨hx, hb, hml, hown, hts⟩ (m_X12_unitAt l g s.heap.size ws h0 (x1) hG o_h0) (cwV 1 hts (gd_V kw_431 kw_464 kw_465 kw_280 kw_463) rfl rfl rfl (by decide +kernel) ⟨Nat.le_of_ble_eq_true rfl, Nat.le_of_ble_eq_true rfl⟩) ⟨gblind, va_recv hK hP (ci := 11) (q0 := k_1) rfl hk_1, fun U hU hW9 => gmk hU hW9 hP hK hD hex hE hS hFc⟩ rfl rfl hl.1 rfl (lv_room (Nat.le_of_ble_eq_true rfl)) dX12_rowAt_2 ⟨Nat.le_of_ble_eq_true rfl, Nat.le_of_ble_eq_true rfl⟩) hS (fun q _ h => hFc q h) hFc (fun r_2 u9 t9 H1 locs ht9 hvm9 hw9 hB9 hz9 hk9 hS => ?_)
  have hP : va_P (gD g) cl0 ws H1 := by rw [← ht9]; exact hB9.1
  have o_r_2 := hw9
  clear hB9 hz9 hk9 hvm9 ht9 hw9
  generalize H1 = H at hP hS ⊢
  have F_r_2 := fun b h => (o_r_2 b h).2
  have o_r_2 := fun b h => (o_r_2 b h).1
  rcases r_2 with _ | b_3
  · skip
    refine lv_astore_nN (lv' := [(3, .null), (0, .ref h0), (1, .int x1), (2, .int x2)]) hx hb dX12_rowAt_5 rfl hl (by decide) rfl (fun ls hl => ?_)
    refine lv_aload_nN hx hb dX12_rowAt_6 rfl (lv_at hl 0 rfl) ?_
    have J_19 : ∀ (v_4 : Option Nat) (H : Heap) (locs : List Loc) (ls : Array Slot), (∀ b, v_4 = some b → gC ws b 7) → va_P (gD g) cl0 ws H → va_D A ws → va_S A s.heap H locs → lv_has ls 4 [] → W p l e (headSpec (wt yX12_rowAt cX12_rowAt 4 (some (.object "CodeFoundry$Row"))) ({ frames := 1, cells := 0, slots := 0, locals := 21 })).room s m ([.ref h0, .int x1, .int x2] : List Value).toArray below meth c H locs (0) (0) (MQ below (va_Qq (fun (r : Option Nat) (u9 : Unit) => ∀ b, r = some b → gC ws b 7) (gQ0 g A ws) A) ([.ref h0, .int x1, .int x2] : List Value).toArray s (0) (0) A) (F0 m 19 ls [va_rf v_4]) := by
      intro v_4 H locs ls  o_v_4 hP hD hS hl
      rcases v_4 with _ | b_7
      · skip
        refine W.widen (k := 0) (n := 0) (Nat.le_of_ble_eq_true rfl) (Nat.le_of_ble_eq_true rfl) ?_
        exact W.aret (v := .null) hx hb hr (Or.inl ⟨_, rfl⟩) (Or.inl rfl) (fun t9 ht9 hW9 => ⟨⟨none, (), rfl, fun b h9 => (by cases h9), ⟨by rw [ht9]; exact hP, hD⟩⟩, hS.F ht9⟩) hS.2.2 dX12_rowAt_19
      · have o_b_7 := o_v_4 _ rfl
        refine W.widen (k := 0) (n := 0) (Nat.le_of_ble_eq_true rfl) (Nat.le_of_ble_eq_true rfl) ?_
        exact W.aret (v := .ref b_7) hx hb hr (Or.inl ⟨_, rfl⟩) (Or.inr ⟨_, rfl⟩) (fun t9 ht9 hW9 => ⟨⟨some b_7, (), rfl, (fun b h9 => by cases h9; exact o_b_7), ⟨by rw [ht9]; exact hP, hD⟩⟩, hS.F ht9⟩) hS.2.2 dX12_rowAt_19
    refine lv_ifnonnullN hx hb dX12_rowAt_7 ?_
    refine lv_null hx hb dX12_rowAt_10 ?_
    refine lv_goto (tgt := 19) hx hb dX12_rowAt_11 (by decide) ?_
    exact J_19 none H locs ls (fun b h9 => by cases h9) hP hD hS (lv_sub hl [] rfl)
  · have o_b_3 := o_r_2 _ rfl
    have F_b_3 := F_r_2 _ rfl
    refine lv_astore_n (lv' := [(3, .ref b_3), (0, .ref h0), (1, .int x1), (2, .int x2)]) hx hb dX12_rowAt_5 rfl hl (by decide) rfl (fun ls hl => ?_)
    refine lv_aload_n hx hb dX12_rowAt_6 rfl (lv_at hl 0 rfl) ?_
    have J_19 : ∀ (v_8 : Option Nat) (H : Heap) (locs : List Loc) (ls : Array Slot), (∀ b, v_8 = some b → gC ws b 7) → va_P (gD g) cl0 ws H → va_D A ws → va_S A s.heap H locs → lv_has ls 4 [] → W p l e (headSpec (wt yX12_rowAt cX12_rowAt 4 (some (.object "CodeFoundry$Row"))) ({ frames := 1, cells := 0, slots := 0, locals := 21 })).room s m ([.ref h0, .int x1, .int x2] : List Value).toArray below meth c H locs (0) (0) (MQ below (va_Qq (fun (r : Option Nat) (u9 : Unit) => ∀ b, r = some b → gC ws b 7) (gQ0 g A ws) A) ([.ref h0, .int x1, .int x2] : List Value).toArray s (0) (0) A) (F0 m 19 ls [va_rf v_8]) := by
      intro v_8 H locs ls  o_v_8 hP hD hS hl
      rcases v_8 with _ | b_11
      · skip
        refine W.widen (k := 0) (n := 0) (Nat.le_of_ble_eq_true rfl) (Nat.le_of_ble_eq_true rfl) ?_
        exact W.aret (v := .null) hx hb hr (Or.inl ⟨_, rfl⟩) (Or.inl rfl) (fun t9 ht9 hW9 => ⟨⟨none, (), rfl, fun b h9 => (by cases h9), ⟨by rw [ht9]; exact hP, hD⟩⟩, hS.F ht9⟩) hS.2.2 dX12_rowAt_19
      · have o_b_11 := o_v_8 _ rfl
        refine W.widen (k := 0) (n := 0) (Nat.le_of_ble_eq_true rfl) (Nat.le_of_ble_eq_true rfl) ?_
        exact W.aret (v := .ref b_11) hx hb hr (Or.inl ⟨_, rfl⟩) (Or.inr ⟨_, rfl⟩) (fun t9 ht9 hW9 => ⟨⟨some b_11, (), rfl, (fun b h9 => by cases h9; exact o_b_11), ⟨by rw [ht9]; exact hP, hD⟩⟩, hS.F ht9⟩) hS.2.2 dX12_rowAt_19
    refine lv_ifnonnull (tgt := 14) hx hb dX12_rowAt_7 (by decide) ?_
    refine lv_aload_n hx hb dX12_rowAt_14 rfl (lv_at hl 0 rfl) ?_
    refine lv_iload_n hx hb dX12_rowAt_15 rfl (lv_at hl 3 rfl) ?_
    have hFc := gfree hD hS hA
    obtain ⟨k_12, fs_12, hk_12⟩ := gC_of o_b_3
    refine va_callq (va_runV (As := [.int x2]) (rest := []) ⟨hx, hb, hml, hown, hts⟩ (m_X10_rowAt l g H.size ws b_3 (x2) hG o_b_3) (cwV 1 hts (gd_V kw_324 kw_70 kw_71 kw_34 kw_69) rfl rfl rfl (by decide +kernel) ⟨Nat.le_of_ble_eq_true rfl, Nat.le_of_ble_eq_true rfl⟩) ⟨gblind, va_recv hK hP (ci := 9) (q0 := k_12) rfl hk_12, fun U hU hW9 => gmk hU hW9 hP hK hD hex hE hS hFc⟩ rfl rfl hl.1 rfl (lv_room (Nat.le_of_ble_eq_true rfl)) dX12_rowAt_16 ⟨Nat.le_of_ble_eq_true rfl, Nat.le_of_ble_eq_true rfl⟩) hS (fun q _ h => hFc q h) hFc (fun r_13 u9 t9 H1 locs ht9 hvm9 hw9 hB9 hz9 hk9 hS => ?_)
    have hP : va_P (gD g) cl0 ws H1 := by rw [← ht9]; exact hB9.1
    obtain ⟨o_r_13, h_r_13⟩ := id hw9
    clear hB9 hz9 hk9 hvm9 ht9 hw9
    generalize H1 = H at hP hS ⊢
    exact J_19 (r_13) H locs ls o_r_13 hP hD hS (lv_sub hl [] rfl)
set_option maxHeartbeats 1000000 in
set_option maxRecDepth 100000 in
theorem m_X12_keep (l : Launch) (g : Gm) (sz : Nat) (ws : va_W) (h0 : Nat) (b1 : Nat) (x2 : Int32) (hG : Good g ws) (o_h0 : gC ws h0 11) (o_b1 : gC ws b1 9) (F_b1 : full ws b1) : Met l yX12_keep (wt yX12_keep cX12_keep 3 (some .int)) ({ frames := 0, cells := 0, slots := 0, locals := 0 }) (va_Pc [.ref h0, .ref b1, .int x2] (st_G g sz ws)) (va_Qi (fun (r : Int32) (u9 : va_W) => True) (gQ1 g [(11, 11)] [(11, 3)] none (va_A ws sz) ws) (va_A ws sz)) (0) (0) (va_A ws sz) := by
  refine Met.ofW (cc := cX12_keep) (maxL := 3) (ret := (some .int)) (by decide) rfl ?_
  intro p e s m args below meth c s₁ B hml hv
  obtain ⟨rfl, hsz, hP, hK, hD0, hex, hE⟩ := hv
  have hx := B.exec
  have hb := B.bytes
  have hr := B.returns
  have hts0 := atoms_spec (ws := wt yX12_keep cX12_keep 3 (some .int)) B.pre
  have hts : ∀ w ∈ tb, w.before _ s = true := fun w h => hts0 w (List.mem_cons_of_mem _ h)
  have hown : s.vm.findClass RX12 = some m.cls := findClass_of_methodNamed B.named
  subst hsz
  have hD := hD0.self (sz := s.heap.size)
  generalize hAe : va_A ws s.heap.size = A at hD hE ⊢
  have hA : ∀ q : Nat, s.heap.size ≤ q → A q := fun q h => by rw [← hAe]; exact Or.inr h
  have hS : va_S A s.heap s.heap [] := va_S.rf
  have hl := lv_entry ([.ref h0, .ref b1, .int x2]) (n := 3) (Nat.le_of_ble_eq_true rfl)
  rw [lg_entry_eq]
  generalize (lg_sl ([.ref h0, .ref b1, .int x2]) ++ List.replicate (3 - (lg_sl ([.ref h0, .ref b1, .int x2])).length) Slot.unset).toArray = ls at hl ⊢
  have hl : lv_has ls 3 [(0, .ref h0), (1, .ref b1), (2, .int x2)] := hl
  refine lv_aload_n hx hb dX12_keep_0 rfl (lv_at hl 1 rfl) ?_
  have J_13 : ∀  (H : Heap) (locs : List Loc) (ls : Array Slot), va_P (gD g) cl0 ws H → va_D A ws → va_S A s.heap H locs → lv_has ls 3 [(2, .int x2)] → W p l e (headSpec (wt yX12_keep cX12_keep 3 (some .int)) ({ frames := 0, cells := 0, slots := 0, locals := 0 })).room s m ([.ref h0, .ref b1, .int x2] : List Value).toArray below meth c H locs (0) (0) (MQ below (va_Qi (fun (r : Int32) (u9 : va_W) => True) (gQ1 g [(11, 11)] [(11, 3)] none A ws) A) ([.ref h0, .ref b1, .int x2] : List Value).toArray s (0) (0) A) (F0 m 13 ls []) := by
    intro  H locs ls  hP hD hS hl
    refine lv_iload_n hx hb dX12_keep_13 rfl (lv_at hl 0 rfl) ?_
    refine W.widen (k := 0) (n := 0) (Nat.le_of_ble_eq_true rfl) (Nat.le_of_ble_eq_true rfl) ?_
    exact W.iret (v := x2) hx hb hr (fun t9 ht9 hW9 => ⟨⟨_, ws, rfl, trivial, ⟨gE.rf, gF.rf, hG, by rw [ht9]; exact hP, hD⟩⟩, hS.F ht9⟩) hS.2.2 dX12_keep_14
  refine lv_ifnull hx hb dX12_keep_1 ?_
  refine lv_aload_n hx hb dX12_keep_4 rfl (lv_at hl 0 rfl) ?_
  obtain ⟨k_3, fs9, hk_3⟩ := gC_of o_h0
  obtain ⟨r0_3, r1_3, r2_3, r3_3, n3_3, r4_3, r5_3, r6_3, r7_3, r8_3, r9_3, c10_3, c11_3, c12_3, c13_3, c14_3, c15_3, c16_3, c17_3, rfl, o_r0_3, o_r1_3, o_r2_3, a_r3_3, f4_3, o_r4_3, o_r5_3, o_r6_3, o_r7_3, o_r8_3, o_r9_3, f11_3, f12_3, f13_3, f14_3, f15_3, f16_3, f17_3, -⟩ := (hG.1 _ _ _ _ hk_3).hX12 rfl
  refine va_get (D := gD g) (ci := 11) (v := .int c11_3) (C := RX12) (T := TX12) (N := 18) hx hb hts inX12 hown hK hP k_3 hk_3 rfl 11 (by decide) (hts _ kw_317) (fun _ h9 => h9) rfl dX12_keep_5 ?_
  refine lv_bipush (v := 12) hx hb dX12_keep_8 (by decide) ?_
  refine lv_icmp_lt (tgt := 15) hx hb dX12_keep_10 (by decide) (fun c_4 => ?_) (fun c_4 => ?_)
  · refine lv_aload_n hx hb dX12_keep_15 rfl (lv_at hl 0 rfl) ?_
    refine va_get (D := gD g) (ci := 11) (v := .ref r3_3) (C := RX12) (T := TX12) (N := 18) hx hb hts inX12 hown hK hP k_3 hk_3 rfl 3 (by decide) (hts _ kw_386) (fun _ h9 => h9) rfl dX12_keep_16 ?_
    refine lv_aload_n hx hb dX12_keep_19 rfl (lv_at hl 0 rfl) ?_
    refine va_get (D := gD g) (ci := 11) (v := .int c11_3) (C := RX12) (T := TX12) (N := 18) hx hb hts inX12 hown hK hP k_3 hk_3 rfl 11 (by decide) (hts _ kw_317) (fun _ h9 => h9) rfl dX12_keep_20 ?_
    refine lv_aload_n hx hb dX12_keep_23 rfl (lv_at hl 1 rfl) ?_
    obtain ⟨k_5, f_5, hk_5⟩ := gR_of a_r3_3
    obtain ⟨k_6, fs_6, hk_6⟩ := gC_of o_b1
    have hC9 : hol ws r3_3 [(11, 3)] := (hol_u hG.u hk_3 (j := 3) rfl a_r3_3 (by decide))
    have hS9 : holS ws r3_3 none := holS_n
    refine va_astq hx hb hK hP hD hS k_5 4 k_6 9 hk_5 rfl hk_6 rfl (i_in2 (by have e12 : (12 : Int32).toInt = 12 := (by decide); have q_f4_3 := f4_3; have q_f11_3 := f11_3; have q_f12_3 := f12_3; have q_f13_3 := f13_3; have q_c_4 := i_lt c_4; have g_c11_3 := i_rg c11_3; omega)) dX12_keep_24 (fun H locs hP hD hS => ?_)
    obtain ⟨ws_7, e_ws_7⟩ : ∃ z, z = ws.set k_5 (r3_3, .inl (g.cU, n3_3, .inr (.inr (.inr (.inr (va_up f_5 (c11_3 : Int32).toNatClampNeg (some b1))))))) := ⟨_, rfl⟩
    have hP : va_P (gD g) cl0 ws_7 H := by rw [e_ws_7]; exact hP
    have hD : va_D A ws_7 := by rw [e_ws_7]; exact hD
    have E_8 : gE ws ws_7 := gE_arr e_ws_7 hk_5
    have hG : Good g ws_7 := Good_arU e_ws_7 hk_5 hG o_b1 F_b1
    have Fr_9 : gF [] [(11, 3)] none ws ws_7 := gF_ar e_ws_7 hk_5 rfl hC9 hS9
    have hk_3 := gset_arO e_ws_7 hk_5 hk_3
    have o_h0 := E_8.1 _ _ o_h0
    have o_b1 := E_8.1 _ _ o_b1
    have F_b1 := F_b1.mo E_8
    have o_r0_3 := E_8.1 _ _ o_r0_3
    have o_r1_3 := E_8.1 _ _ o_r1_3
    have o_r2_3 := E_8.1 _ _ o_r2_3
    have a_r3_3 := E_8.1 _ _ a_r3_3
    have o_r4_3 := E_8.1 _ _ o_r4_3
    have o_r5_3 := E_8.1 _ _ o_r5_3
    have o_r6_3 := E_8.1 _ _ o_r6_3
    have o_r7_3 := E_8.1 _ _ o_r7_3
    have o_r8_3 := E_8.1 _ _ o_r8_3
    have o_r9_3 := E_8.1 _ _ o_r9_3
    refine lv_aload_n hx hb dX12_keep_25 rfl (lv_at hl 0 rfl) ?_
    refine lv_dup hx hb dX12_keep_26 rfl ?_
    refine va_get (D := gD g) (ci := 11) (v := .int c11_3) (C := RX12) (T := TX12) (N := 18) hx hb hts inX12 hown hK hP k_3 hk_3 rfl 11 (by decide) (hts _ kw_317) (fun _ h9 => h9) rfl dX12_keep_27 ?_
    refine lv_iconst (v := 1) hx hb dX12_keep_30 (by decide) ?_
    refine lv_iadd hx hb dX12_keep_31 ?_
    refine lv_topi (fun z_10 ez_10 => ?_)
    have hV9 : okv ws_7 11 11 (.int z_10) := okv_i
    refine va_put (D := gD g) (ci := 11) (v := .int z_10) (ty := .int) (C := RX12) (T := TX12) (N := 18) hx hb hts inX12 tyX12 tyX12_ok nmX12 hown hK hP hD hS k_3 hk_3 rfl 11 (by decide) (hts _ kw_317) (fun _ h9 => h9) rfl (by decide +kernel) rfl rfl (Nat.le_of_ble_eq_true rfl) dX12_keep_32 (fun H locs hP hD hS => ?_)
    have f_11 : 0 ≤ z_10.toInt := (by have e1 : (1 : Int32).toInt = 1 := (by decide); have e12 : (12 : Int32).toInt = 12 := (by decide); obtain ⟨u_z_10, q_z_10⟩ := i_add ez_10; have q_f12_3 := f12_3; have q_f13_3 := f13_3; have q_c_4 := i_lt c_4; have g_c11_3 := i_rg c11_3; have g_z_10 := i_rg z_10; omega)
    have f_12 : z_10.toInt ≤ 12 := (by have e1 : (1 : Int32).toInt = 1 := (by decide); have e12 : (12 : Int32).toInt = 12 := (by decide); obtain ⟨u_z_10, q_z_10⟩ := i_add ez_10; have q_f_11 := f_11; have q_f12_3 := f12_3; have q_f13_3 := f13_3; have q_c_4 := i_lt c_4; have g_c11_3 := i_rg c11_3; have g_z_10 := i_rg z_10; omega)
    have hi_13 : invX12 g ws_7 h0 [.ref r0_3, .ref r1_3, .ref r2_3, .ref r3_3, .ref r4_3, .ref r5_3, .ref r6_3, .ref r7_3, .ref r8_3, .ref r9_3, .int c10_3, .int z_10, .int c12_3, .int c13_3, .int c14_3, .int c15_3, .int c16_3, .int c17_3] := ⟨r0_3, r1_3, r2_3, r3_3, (n3_3), r4_3, r5_3, r6_3, r7_3, r8_3, r9_3, (c10_3), (z_10), (c12_3), (c13_3), (c14_3), (c15_3), (c16_3), (c17_3), rfl, o_r0_3, o_r1_3, o_r2_3, a_r3_3, f4_3, o_r4_3, o_r5_3, o_r6_3, o_r7_3, o_r8_3, o_r9_3, f11_3, f_11, f_12, f14_3, f15_3, f16_3, f17_3, trivial⟩
    obtain ⟨ws_14, e_ws_14⟩ : ∃ z, z = ws_7.set k_3 (h0, .inr (11, [.ref r0_3, .ref r1_3, .ref r2_3, .ref r3_3, .ref r4_3, .ref r5_3, .ref r6_3, .ref r7_3, .ref r8_3, .ref r9_3, .int c10_3, .int z_10, .int c12_3, .int c13_3, .int c14_3, .int c15_3, .int c16_3, .int c17_3])) := ⟨_, rfl⟩
    have hP : va_P (gD g) cl0 ws_14 H := by rw [e_ws_14]; exact hP
    have hD : va_D A ws_14 := by rw [e_ws_14]; exact hD
    have E_15 : gE ws_7 ws_14 := gE_set e_ws_14 hk_3 (cw_o (fi := 11) (v := .int z_10) rfl (by decide))
    have hG : Good g ws_14 := Good_set (fi := 11) (v := .int z_10) e_ws_14 hk_3 E_15 rfl hV9 hG (ivX12 hi_13)
    have Fr_16 : gF [(11, 11)] [] (some h0) ws_7 ws_14 := gF_put (fi := 11) (v := .int z_10) e_ws_14 hk_3 rfl (by decide)
    have hkN := gset_self e_ws_14 hk_3
    have hk_3 := hkN
    have o_h0 := E_15.1 _ _ o_h0
    have o_b1 := E_15.1 _ _ o_b1
    have F_b1 := F_b1.mo E_15
    have o_r0_3 := E_15.1 _ _ o_r0_3
    have o_r1_3 := E_15.1 _ _ o_r1_3
    have o_r2_3 := E_15.1 _ _ o_r2_3
    have a_r3_3 := E_15.1 _ _ a_r3_3
    have o_r4_3 := E_15.1 _ _ o_r4_3
    have o_r5_3 := E_15.1 _ _ o_r5_3
    have o_r6_3 := E_15.1 _ _ o_r6_3
    have o_r7_3 := E_15.1 _ _ o_r7_3
    have o_r8_3 := E_15.1 _ _ o_r8_3
    have o_r9_3 := E_15.1 _ _ o_r9_3
    refine lv_aload_n hx hb dX12_keep_35 rfl (lv_at hl 0 rfl) ?_
    refine va_get (D := gD g) (ci := 11) (v := .int z_10) (C := RX12) (T := TX12) (N := 18) hx hb hts inX12 hown hK hP k_3 hk_3 rfl 11 (by decide) (hts _ kw_317) (fun _ h9 => h9) rfl dX12_keep_36 ?_
    refine lv_iconst (v := 1) hx hb dX12_keep_39 (by decide) ?_
    refine lv_isub hx hb dX12_keep_40 ?_
    refine lv_topi (fun z_17 ez_17 => ?_)
    refine W.widen (k := 0) (n := 0) (Nat.le_of_ble_eq_true rfl) (Nat.le_of_ble_eq_true rfl) ?_
    exact W.iret (v := z_17) hx hb hr (fun t9 ht9 hW9 => ⟨⟨_, ws_14, rfl, trivial, ⟨(E_8.tr E_15), (gF.tr (gF.mo (F' := [(11, 11)]) (C' := [(11, 3)]) (S' := none) Fr_9 (fun _ h => absurd h List.not_mem_nil) (fun _ h => h) (Or.inr rfl)) (gF.mo (F' := [(11, 11)]) (C' := [(11, 3)]) (S' := none) Fr_16 (fun _ h => h) (fun _ h => absurd h List.not_mem_nil) (Or.inl rfl))), hG, by rw [ht9]; exact hP, hD⟩⟩, hS.F ht9⟩) hS.2.2 dX12_keep_41
  · exact J_13  _ _ ls  hP hD hS (lv_sub hl [2] rfl)
set_option maxHeartbeats 1000000 in
set_option maxRecDepth 100000 in
theorem m_X12_size (l : Launch) (g : Gm) (sz : Nat) (ws : va_W) (h0 : Nat) (x1 : Int32) (x2 : Int32) (hG : Good g ws) (o_h0 : gC ws h0 11) : Met l yX12_size (wt yX12_size cX12_size 4 (some .int)) ({ frames := 1, cells := 0, slots := 0, locals := 21 }) (va_Pc [.ref h0, .int x1, .int x2] (st_G g sz ws)) (va_Qi (fun (r : Int32) (u9 : Unit) => True) (gQ0 g (va_A ws sz) ws) (va_A ws sz)) (0) (0) (va_A ws sz) := by
  refine Met.ofW (cc := cX12_size) (maxL := 4) (ret := (some .int)) (by decide) rfl ?_
  intro p e s m args below meth c s₁ B hml hv
  obtain ⟨rfl, hsz, hP, hK, hD0, hex, hE⟩ := hv
  have hx := B.exec
  have hb := B.bytes
  have hr := B.returns
  have hts0 := atoms_spec (ws := wt yX12_size cX12_size 4 (some .int)) B.pre
  have hts : ∀ w ∈ tb, w.before _ s = true := fun w h => hts0 w (List.mem_cons_of_mem _ h)
  have hown : s.vm.findClass RX12 = some m.cls := findClass_of_methodNamed B.named
  subst hsz
  have hD := hD0.self (sz := s.heap.size)
  generalize hAe : va_A ws s.heap.size = A at hD hE ⊢
  have hA : ∀ q : Nat, s.heap.size ≤ q → A q := fun q h => by rw [← hAe]; exact Or.inr h
  have hS : va_S A s.heap s.heap [] := va_S.rf
  have hl := lv_entry ([.ref h0, .int x1, .int x2]) (n := 4) (Nat.le_of_ble_eq_true rfl)
  rw [lg_entry_eq]
  generalize (lg_sl ([.ref h0, .int x1, .int x2]) ++ List.replicate (4 - (lg_sl ([.ref h0, .int x1, .int x2])).length) Slot.unset).toArray = ls at hl ⊢
  have hl : lv_has ls 4 [(0, .ref h0), (1, .int x1), (2, .int x2)] := hl
  refine lv_aload_n hx hb dX12_size_0 rfl (lv_at hl 0 rfl) ?_
  refine lv_iload_n hx hb dX12_size_1 rfl (lv_at hl 1 rfl) ?_
  have hFc := gfree hD hS hA
  obtain ⟨k_1, fs_1, hk_1⟩ := gC_of o_h0
  refine va_callq (va_runV (As := [.int x1]) (rest := []) ⟨hx, hb, hml, hown, hts⟩ (m_X12_unitAt l g s.heap.size ws h0 (x1) hG o_h0) (cwV 1 hts (gd_V kw_431 kw_464 kw_465 kw_280 kw_463) rfl rfl rfl (by decide +kernel) ⟨Nat.le_of_ble_eq_true rfl, Nat.le_of_ble_eq_true rfl⟩) ⟨gblind, va_recv hK hP (ci := 11) (q0 := k_1) rfl hk_1, fun U hU hW9 => gmk hU hW9 hP hK hD hex hE hS hFc⟩ rfl rfl hl.1 rfl (lv_room (Nat.le_of_ble_eq_true rfl)) dX12_size_2 ⟨Nat.le_of_ble_eq_true rfl, Nat.le_of_ble_eq_true rfl⟩) hS (fun q _ h => hFc q h) hFc (fun r_2 u9 t9 H1 locs ht9 hvm9 hw9 hB9 hz9 hk9 hS => ?_)
  have hP : va_P (gD g) cl0 ws H1 := by rw [← ht9]; exact hB9.1
  have o_r_2 := hw9
  clear hB9 hz9 hk9 hvm9 ht9 hw9
  generalize H1 = H at hP hS ⊢
  have F_r_2 := fun b h => (o_r_2 b h).2
  have o_r_2 := fun b h => (o_r_2 b h).1
  rcases r_2 with _ | b_3
  · skip
    refine lv_astore_nN (lv' := [(3, .null), (0, .ref h0), (1, .int x1), (2, .int x2)]) hx hb dX12_size_5 rfl hl (by decide) rfl (fun ls hl => ?_)
    refine lv_aload_nN hx hb dX12_size_6 rfl (lv_at hl 0 rfl) ?_
    refine lv_ifnonnullN hx hb dX12_size_7 ?_
    refine lv_iconst (v := (-1)) hx hb dX12_size_10 (by decide) ?_
    refine W.widen (k := 0) (n := 0) (Nat.le_of_ble_eq_true rfl) (Nat.le_of_ble_eq_true rfl) ?_
    exact W.iret (v := (-1)) hx hb hr (fun t9 ht9 hW9 => ⟨⟨_, (), rfl, trivial, ⟨by rw [ht9]; exact hP, hD⟩⟩, hS.F ht9⟩) hS.2.2 dX12_size_11
  · have o_b_3 := o_r_2 _ rfl
    have F_b_3 := F_r_2 _ rfl
    refine lv_astore_n (lv' := [(3, .ref b_3), (0, .ref h0), (1, .int x1), (2, .int x2)]) hx hb dX12_size_5 rfl hl (by decide) rfl (fun ls hl => ?_)
    refine lv_aload_n hx hb dX12_size_6 rfl (lv_at hl 0 rfl) ?_
    refine lv_ifnonnull (tgt := 12) hx hb dX12_size_7 (by decide) ?_
    refine lv_iload_n hx hb dX12_size_12 rfl (lv_at hl 3 rfl) ?_
    have K_13_64 : W p l e (headSpec (wt yX12_size cX12_size 4 (some .int)) ({ frames := 1, cells := 0, slots := 0, locals := 21 })).room s m ([.ref h0, .int x1, .int x2] : List Value).toArray below meth c H locs (0) (0) (MQ below (va_Qi (fun (r : Int32) (u9 : Unit) => True) (gQ0 g A ws) A) ([.ref h0, .int x1, .int x2] : List Value).toArray s (0) (0) A) (F0 m 64 ls []) := by
      refine lv_iconst (v := (-1)) hx hb dX12_size_64 (by decide) ?_
      refine W.widen (k := 0) (n := 0) (Nat.le_of_ble_eq_true rfl) (Nat.le_of_ble_eq_true rfl) ?_
      exact W.iret (v := (-1)) hx hb hr (fun t9 ht9 hW9 => ⟨⟨_, (), rfl, trivial, ⟨by rw [ht9]; exact hP, hD⟩⟩, hS.F ht9⟩) hS.2.2 dX12_size_65
    have K_13_44 : W p l e (headSpec (wt yX12_size cX12_size 4 (some .int)) ({ frames := 1, cells := 0, slots := 0, locals := 21 })).room s m ([.ref h0, .int x1, .int x2] : List Value).toArray below meth c H locs (0) (0) (MQ below (va_Qi (fun (r : Int32) (u9 : Unit) => True) (gQ0 g A ws) A) ([.ref h0, .int x1, .int x2] : List Value).toArray s (0) (0) A) (F0 m 44 ls []) := by
      refine lv_aload_n hx hb dX12_size_44 rfl (lv_at hl 0 rfl) ?_
      obtain ⟨k_4, fs9, hk_4⟩ := gC_of o_b_3
      obtain ⟨r0_4, n0_4, c1_4, c2_4, c3_4, c4_4, r5_4, n5_4, r6_4, n6_4, r7_4, n7_4, c8_4, r9_4, n9_4, r10_4, n10_4, r11_4, n11_4, r12_4, n12_4, r13_4, n13_4, c14_4, c15_4, c16_4, c17_4, rfl, a_r0_4, f1_4, a_r5_4, f3_4, a_r6_4, f5_4, a_r7_4, f7_4, a_r9_4, f9_4, a_r10_4, f11_4, a_r11_4, f13_4, a_r12_4, f15_4, a_r13_4, f17_4, hz_c15_4, f19_4, f20_4, f21_4, f22_4, f23_4, f24_4, f25_4, f26_4, f27_4, f28_4, -⟩ := (hG.1 _ _ _ _ hk_4).hX10 rfl
      refine va_get (D := gD g) (ci := 9) (v := .int c4_4) (C := RX10) (T := TX10) (N := 18) hx hb hts inX10 hown hK hP k_4 hk_4 rfl 4 (by decide) (hts _ kw_320) (fun _ h9 => h9) rfl dX12_size_45 ?_
      refine W.widen (k := 0) (n := 0) (Nat.le_of_ble_eq_true rfl) (Nat.le_of_ble_eq_true rfl) ?_
      exact W.iret (v := c4_4) hx hb hr (fun t9 ht9 hW9 => ⟨⟨_, (), rfl, trivial, ⟨by rw [ht9]; exact hP, hD⟩⟩, hS.F ht9⟩) hS.2.2 dX12_size_48
    have K_13_49 : W p l e (headSpec (wt yX12_size cX12_size 4 (some .int)) ({ frames := 1, cells := 0, slots := 0, locals := 21 })).room s m ([.ref h0, .int x1, .int x2] : List Value).toArray below meth c H locs (0) (0) (MQ below (va_Qi (fun (r : Int32) (u9 : Unit) => True) (gQ0 g A ws) A) ([.ref h0, .int x1, .int x2] : List Value).toArray s (0) (0) A) (F0 m 49 ls []) := by
      refine lv_aload_n hx hb dX12_size_49 rfl (lv_at hl 0 rfl) ?_
      obtain ⟨k_5, fs9, hk_5⟩ := gC_of o_b_3
      obtain ⟨r0_5, n0_5, c1_5, c2_5, c3_5, c4_5, r5_5, n5_5, r6_5, n6_5, r7_5, n7_5, c8_5, r9_5, n9_5, r10_5, n10_5, r11_5, n11_5, r12_5, n12_5, r13_5, n13_5, c14_5, c15_5, c16_5, c17_5, rfl, a_r0_5, f1_5, a_r5_5, f3_5, a_r6_5, f5_5, a_r7_5, f7_5, a_r9_5, f9_5, a_r10_5, f11_5, a_r11_5, f13_5, a_r12_5, f15_5, a_r13_5, f17_5, hz_c15_5, f19_5, f20_5, f21_5, f22_5, f23_5, f24_5, f25_5, f26_5, f27_5, f28_5, -⟩ := (hG.1 _ _ _ _ hk_5).hX10 rfl
      refine va_get (D := gD g) (ci := 9) (v := .int c8_5) (C := RX10) (T := TX10) (N := 18) hx hb hts inX10 hown hK hP k_5 hk_5 rfl 8 (by decide) (hts _ kw_323) (fun _ h9 => h9) rfl dX12_size_50 ?_
      refine W.widen (k := 0) (n := 0) (Nat.le_of_ble_eq_true rfl) (Nat.le_of_ble_eq_true rfl) ?_
      exact W.iret (v := c8_5) hx hb hr (fun t9 ht9 hW9 => ⟨⟨_, (), rfl, trivial, ⟨by rw [ht9]; exact hP, hD⟩⟩, hS.F ht9⟩) hS.2.2 dX12_size_53
    have K_13_54 : W p l e (headSpec (wt yX12_size cX12_size 4 (some .int)) ({ frames := 1, cells := 0, slots := 0, locals := 21 })).room s m ([.ref h0, .int x1, .int x2] : List Value).toArray below meth c H locs (0) (0) (MQ below (va_Qi (fun (r : Int32) (u9 : Unit) => True) (gQ0 g A ws) A) ([.ref h0, .int x1, .int x2] : List Value).toArray s (0) (0) A) (F0 m 54 ls []) := by
      refine lv_aload_n hx hb dX12_size_54 rfl (lv_at hl 0 rfl) ?_
      obtain ⟨k_6, fs9, hk_6⟩ := gC_of o_b_3
      obtain ⟨r0_6, n0_6, c1_6, c2_6, c3_6, c4_6, r5_6, n5_6, r6_6, n6_6, r7_6, n7_6, c8_6, r9_6, n9_6, r10_6, n10_6, r11_6, n11_6, r12_6, n12_6, r13_6, n13_6, c14_6, c15_6, c16_6, c17_6, rfl, a_r0_6, f1_6, a_r5_6, f3_6, a_r6_6, f5_6, a_r7_6, f7_6, a_r9_6, f9_6, a_r10_6, f11_6, a_r11_6, f13_6, a_r12_6, f15_6, a_r13_6, f17_6, hz_c15_6, f19_6, f20_6, f21_6, f22_6, f23_6, f24_6, f25_6, f26_6, f27_6, f28_6, -⟩ := (hG.1 _ _ _ _ hk_6).hX10 rfl
      refine va_get (D := gD g) (ci := 9) (v := .int c1_6) (C := RX10) (T := TX10) (N := 18) hx hb hts inX10 hown hK hP k_6 hk_6 rfl 1 (by decide) (hts _ kw_444) (fun _ h9 => h9) rfl dX12_size_55 ?_
      refine W.widen (k := 0) (n := 0) (Nat.le_of_ble_eq_true rfl) (Nat.le_of_ble_eq_true rfl) ?_
      exact W.iret (v := c1_6) hx hb hr (fun t9 ht9 hW9 => ⟨⟨_, (), rfl, trivial, ⟨by rw [ht9]; exact hP, hD⟩⟩, hS.F ht9⟩) hS.2.2 dX12_size_58
    have K_13_59 : W p l e (headSpec (wt yX12_size cX12_size 4 (some .int)) ({ frames := 1, cells := 0, slots := 0, locals := 21 })).room s m ([.ref h0, .int x1, .int x2] : List Value).toArray below meth c H locs (0) (0) (MQ below (va_Qi (fun (r : Int32) (u9 : Unit) => True) (gQ0 g A ws) A) ([.ref h0, .int x1, .int x2] : List Value).toArray s (0) (0) A) (F0 m 59 ls []) := by
      refine lv_aload_n hx hb dX12_size_59 rfl (lv_at hl 0 rfl) ?_
      obtain ⟨k_7, fs9, hk_7⟩ := gC_of o_b_3
      obtain ⟨r0_7, n0_7, c1_7, c2_7, c3_7, c4_7, r5_7, n5_7, r6_7, n6_7, r7_7, n7_7, c8_7, r9_7, n9_7, r10_7, n10_7, r11_7, n11_7, r12_7, n12_7, r13_7, n13_7, c14_7, c15_7, c16_7, c17_7, rfl, a_r0_7, f1_7, a_r5_7, f3_7, a_r6_7, f5_7, a_r7_7, f7_7, a_r9_7, f9_7, a_r10_7, f11_7, a_r11_7, f13_7, a_r12_7, f15_7, a_r13_7, f17_7, hz_c15_7, f19_7, f20_7, f21_7, f22_7, f23_7, f24_7, f25_7, f26_7, f27_7, f28_7, -⟩ := (hG.1 _ _ _ _ hk_7).hX10 rfl
      refine va_get (D := gD g) (ci := 9) (v := .int c14_7) (C := RX10) (T := TX10) (N := 18) hx hb hts inX10 hown hK hP k_7 hk_7 rfl 14 (by decide) (hts _ kw_445) (fun _ h9 => h9) rfl dX12_size_60 ?_
      refine W.widen (k := 0) (n := 0) (Nat.le_of_ble_eq_true rfl) (Nat.le_of_ble_eq_true rfl) ?_
      exact W.iret (v := c14_7) hx hb hr (fun t9 ht9 hW9 => ⟨⟨_, (), rfl, trivial, ⟨by rw [ht9]; exact hP, hD⟩⟩, hS.F ht9⟩) hS.2.2 dX12_size_63
    rcases Classical.em ((x2 : Int32).toInt < 0 ∨ 3 < (x2 : Int32).toInt) with c9 | c9
    · exact lv_tableOut (tgt := 64) hx hb dX12_size_13 c9 (by decide) K_13_64
    · rcases (show (x2 : Int32).toInt = 0 ∨ (x2 : Int32).toInt = 1 ∨ (x2 : Int32).toInt = 2 ∨ (x2 : Int32).toInt = 3 by omega) with c9 | c9 | c9 | c9
      · exact lv_tableIn (off := 31) (tgt := 44) hx hb dX12_size_13 (by rw [c9]; decide) (by rw [c9]; decide) (by rw [c9]; rfl) (by decide) K_13_44
      · exact lv_tableIn (off := 36) (tgt := 49) hx hb dX12_size_13 (by rw [c9]; decide) (by rw [c9]; decide) (by rw [c9]; rfl) (by decide) K_13_49
      · exact lv_tableIn (off := 41) (tgt := 54) hx hb dX12_size_13 (by rw [c9]; decide) (by rw [c9]; decide) (by rw [c9]; rfl) (by decide) K_13_54
      · exact lv_tableIn (off := 46) (tgt := 59) hx hb dX12_size_13 (by rw [c9]; decide) (by rw [c9]; decide) (by rw [c9]; rfl) (by decide) K_13_59
set_option maxHeartbeats 1000000 in
set_option maxRecDepth 100000 in
theorem m_X12_length (l : Launch) (g : Gm) (sz : Nat) (ws : va_W) (h0 : Nat) (x1 : Int32) (x2 : Int32) (hG : Good g ws) (o_h0 : gC ws h0 11) : Met l yX12_length (wt yX12_length cX12_length 4 (some .int)) ({ frames := 2, cells := 0, slots := 0, locals := 44 }) (va_Pc [.ref h0, .int x1, .int x2] (st_G g sz ws)) (va_Qi (fun (r : Int32) (u9 : Unit) => True) (gQ0 g (va_A ws sz) ws) (va_A ws sz)) (0) (0) (va_A ws sz) := by
  refine Met.ofW (cc := cX12_length) (maxL := 4) (ret := (some .int)) (by decide) rfl ?_
  intro p e s m args below meth c s₁ B hml hv
  obtain ⟨rfl, hsz, hP, hK, hD0, hex, hE⟩ := hv
  have hx := B.exec
  have hb := B.bytes
  have hr := B.returns
  have hts0 := atoms_spec (ws := wt yX12_length cX12_length 4 (some .int)) B.pre
  have hts : ∀ w ∈ tb, w.before _ s = true := fun w h => hts0 w (List.mem_cons_of_mem _ h)
  have hown : s.vm.findClass RX12 = some m.cls := findClass_of_methodNamed B.named
  subst hsz
  have hD := hD0.self (sz := s.heap.size)
  generalize hAe : va_A ws s.heap.size = A at hD hE ⊢
  have hA : ∀ q : Nat, s.heap.size ≤ q → A q := fun q h => by rw [← hAe]; exact Or.inr h
  have hS : va_S A s.heap s.heap [] := va_S.rf
  have hl := lv_entry ([.ref h0, .int x1, .int x2]) (n := 4) (Nat.le_of_ble_eq_true rfl)
  rw [lg_entry_eq]
  generalize (lg_sl ([.ref h0, .int x1, .int x2]) ++ List.replicate (4 - (lg_sl ([.ref h0, .int x1, .int x2])).length) Slot.unset).toArray = ls at hl ⊢
  have hl : lv_has ls 4 [(0, .ref h0), (1, .int x1), (2, .int x2)] := hl
  refine lv_aload_n hx hb dX12_length_0 rfl (lv_at hl 0 rfl) ?_
  refine lv_iload_n hx hb dX12_length_1 rfl (lv_at hl 1 rfl) ?_
  refine lv_iload_n hx hb dX12_length_2 rfl (lv_at hl 2 rfl) ?_
  have hFc := gfree hD hS hA
  obtain ⟨k_1, fs_1, hk_1⟩ := gC_of o_h0
  refine va_callq (va_runV (As := [.int x1, .int x2]) (rest := []) ⟨hx, hb, hml, hown, hts⟩ (m_X12_rowAt l g s.heap.size ws h0 (x1) (x2) hG o_h0) (cwV 2 hts (gd_V kw_299 kw_429 kw_430 kw_280 kw_428) rfl rfl rfl (by decide +kernel) ⟨Nat.le_of_ble_eq_true rfl, Nat.le_of_ble_eq_true rfl⟩) ⟨gblind, va_recv hK hP (ci := 11) (q0 := k_1) rfl hk_1, fun U hU hW9 => gmk hU hW9 hP hK hD hex hE hS hFc⟩ rfl rfl hl.1 rfl (lv_room (Nat.le_of_ble_eq_true rfl)) dX12_length_3 ⟨Nat.le_of_ble_eq_true rfl, Nat.le_of_ble_eq_true rfl⟩) hS (fun q _ h => hFc q h) hFc (fun r_2 u9 t9 H1 locs ht9 hvm9 hw9 hB9 hz9 hk9 hS => ?_)
  have hP : va_P (gD g) cl0 ws H1 := by rw [← ht9]; exact hB9.1
  have o_r_2 := hw9
  clear hB9 hz9 hk9 hvm9 ht9 hw9
  generalize H1 = H at hP hS ⊢
  rcases r_2 with _ | b_3
  · skip
    refine lv_astore_nN (lv' := [(3, .null), (0, .ref h0), (1, .int x1), (2, .int x2)]) hx hb dX12_length_6 rfl hl (by decide) rfl (fun ls hl => ?_)
    refine lv_aload_nN hx hb dX12_length_7 rfl (lv_at hl 0 rfl) ?_
    have J_19 : ∀ (t_4 : Int32) (H : Heap) (locs : List Loc) (ls : Array Slot), va_P (gD g) cl0 ws H → va_D A ws → va_S A s.heap H locs → lv_has ls 4 [] → W p l e (headSpec (wt yX12_length cX12_length 4 (some .int)) ({ frames := 2, cells := 0, slots := 0, locals := 44 })).room s m ([.ref h0, .int x1, .int x2] : List Value).toArray below meth c H locs (0) (0) (MQ below (va_Qi (fun (r : Int32) (u9 : Unit) => True) (gQ0 g A ws) A) ([.ref h0, .int x1, .int x2] : List Value).toArray s (0) (0) A) (F0 m 19 ls [.int t_4]) := by
      intro t_4 H locs ls  hP hD hS hl
      refine W.widen (k := 0) (n := 0) (Nat.le_of_ble_eq_true rfl) (Nat.le_of_ble_eq_true rfl) ?_
      exact W.iret (v := t_4) hx hb hr (fun t9 ht9 hW9 => ⟨⟨_, (), rfl, trivial, ⟨by rw [ht9]; exact hP, hD⟩⟩, hS.F ht9⟩) hS.2.2 dX12_length_19
    refine lv_ifnonnullN hx hb dX12_length_8 ?_
    refine lv_iconst (v := (-1)) hx hb dX12_length_11 (by decide) ?_
    refine lv_goto (tgt := 19) hx hb dX12_length_12 (by decide) ?_
    exact J_19 ((-1)) H locs ls  hP hD hS (lv_sub hl [] rfl)
  · have o_b_3 := o_r_2 _ rfl
    refine lv_astore_n (lv' := [(3, .ref b_3), (0, .ref h0), (1, .int x1), (2, .int x2)]) hx hb dX12_length_6 rfl hl (by decide) rfl (fun ls hl => ?_)
    refine lv_aload_n hx hb dX12_length_7 rfl (lv_at hl 0 rfl) ?_
    have J_19 : ∀ (t_7 : Int32) (H : Heap) (locs : List Loc) (ls : Array Slot), va_P (gD g) cl0 ws H → va_D A ws → va_S A s.heap H locs → lv_has ls 4 [] → W p l e (headSpec (wt yX12_length cX12_length 4 (some .int)) ({ frames := 2, cells := 0, slots := 0, locals := 44 })).room s m ([.ref h0, .int x1, .int x2] : List Value).toArray below meth c H locs (0) (0) (MQ below (va_Qi (fun (r : Int32) (u9 : Unit) => True) (gQ0 g A ws) A) ([.ref h0, .int x1, .int x2] : List Value).toArray s (0) (0) A) (F0 m 19 ls [.int t_7]) := by
      intro t_7 H locs ls  hP hD hS hl
      refine W.widen (k := 0) (n := 0) (Nat.le_of_ble_eq_true rfl) (Nat.le_of_ble_eq_true rfl) ?_
      exact W.iret (v := t_7) hx hb hr (fun t9 ht9 hW9 => ⟨⟨_, (), rfl, trivial, ⟨by rw [ht9]; exact hP, hD⟩⟩, hS.F ht9⟩) hS.2.2 dX12_length_19
    refine lv_ifnonnull (tgt := 15) hx hb dX12_length_8 (by decide) ?_
    refine lv_aload_n hx hb dX12_length_15 rfl (lv_at hl 0 rfl) ?_
    obtain ⟨k_10, fs9, hk_10⟩ := gC_of o_b_3
    obtain ⟨r0_10, n0_10, r1_10, n1_10, c2_10, r3_10, n3_10, c4_10, r5_10, n5_10, r6_10, n6_10, r7_10, n7_10, r8_10, n8_10, c9_10, c10_10, c11_10, v12_10, v13_10, v14_10, rfl, a_r0_10, f1_10, a_r1_10, f3_10, a_r3_10, f5_10, a_r5_10, f7_10, a_r6_10, f9_10, a_r7_10, f11_10, a_r8_10, f13_10, o_v12_10, o_v13_10, o_v14_10, f17_10, f18_10, f19_10, f20_10, f21_10, f22_10, f23_10, f24_10, f25_10, f26_10, f27_10, f28_10, f29_10, -⟩ := (hG.1 _ _ _ _ hk_10).hX8 rfl
    refine va_get (D := gD g) (ci := 7) (v := .int c2_10) (C := RX8) (T := TX8) (N := 15) hx hb hts inX8 hown hK hP k_10 hk_10 rfl 2 (by decide) (hts _ kw_413) (fun _ h9 => h9) rfl dX12_length_16 ?_
    exact J_19 (c2_10) H locs ls  hP hD hS (lv_sub hl [] rfl)
set_option maxHeartbeats 1000000 in
set_option maxRecDepth 100000 in
theorem m_X12_height (l : Launch) (g : Gm) (sz : Nat) (ws : va_W) (h0 : Nat) (x1 : Int32) (x2 : Int32) (x3 : Int32) (hG : Good g ws) (o_h0 : gC ws h0 11) : Met l yX12_height (wt yX12_height cX12_height 5 (some .int)) ({ frames := 2, cells := 0, slots := 0, locals := 44 }) (va_Pc [.ref h0, .int x1, .int x2, .int x3] (st_G g sz ws)) (va_Qi (fun (r : Int32) (u9 : Unit) => True) (gQ0 g (va_A ws sz) ws) (va_A ws sz)) (0) (0) (va_A ws sz) := by
  refine Met.ofW (cc := cX12_height) (maxL := 5) (ret := (some .int)) (by decide) rfl ?_
  intro p e s m args below meth c s₁ B hml hv
  obtain ⟨rfl, hsz, hP, hK, hD0, hex, hE⟩ := hv
  have hx := B.exec
  have hb := B.bytes
  have hr := B.returns
  have hts0 := atoms_spec (ws := wt yX12_height cX12_height 5 (some .int)) B.pre
  have hts : ∀ w ∈ tb, w.before _ s = true := fun w h => hts0 w (List.mem_cons_of_mem _ h)
  have hown : s.vm.findClass RX12 = some m.cls := findClass_of_methodNamed B.named
  subst hsz
  have hD := hD0.self (sz := s.heap.size)
  generalize hAe : va_A ws s.heap.size = A at hD hE ⊢
  have hA : ∀ q : Nat, s.heap.size ≤ q → A q := fun q h => by rw [← hAe]; exact Or.inr h
  have hS : va_S A s.heap s.heap [] := va_S.rf
  have hl := lv_entry ([.ref h0, .int x1, .int x2, .int x3]) (n := 5) (Nat.le_of_ble_eq_true rfl)
  rw [lg_entry_eq]
  generalize (lg_sl ([.ref h0, .int x1, .int x2, .int x3]) ++ List.replicate (5 - (lg_sl ([.ref h0, .int x1, .int x2, .int x3])).length) Slot.unset).toArray = ls at hl ⊢
  have hl : lv_has ls 5 [(0, .ref h0), (1, .int x1), (2, .int x2), (3, .int x3)] := hl
  refine lv_aload_n hx hb dX12_height_0 rfl (lv_at hl 0 rfl) ?_
  refine lv_iload_n hx hb dX12_height_1 rfl (lv_at hl 1 rfl) ?_
  have hFc := gfree hD hS hA
  obtain ⟨k_1, fs_1, hk_1⟩ := gC_of o_h0
  refine va_callq (va_runV (As := [.int x1]) (rest := []) ⟨hx, hb, hml, hown, hts⟩ (m_X12_soundUnitAt l g s.heap.size ws h0 (x1) hG o_h0) (cwV 1 hts (gd_V kw_316 kw_447 kw_448 kw_280 kw_446) rfl rfl rfl (by decide +kernel) ⟨Nat.le_of_ble_eq_true rfl, Nat.le_of_ble_eq_true rfl⟩) ⟨gblind, va_recv hK hP (ci := 11) (q0 := k_1) rfl hk_1, fun U hU hW9 => gmk hU hW9 hP hK hD hex hE hS hFc⟩ rfl rfl hl.1 rfl (lv_room (Nat.le_of_ble_eq_true rfl)) dX12_height_2 ⟨Nat.le_of_ble_eq_true rfl, Nat.le_of_ble_eq_true rfl⟩) hS (fun q _ h => hFc q h) hFc (fun r_2 u9 t9 H1 locs ht9 hvm9 hw9 hB9 hz9 hk9 hS => ?_)
  have hP : va_P (gD g) cl0 ws H1 := by rw [← ht9]; exact hB9.1
  have o_r_2 := hw9
  clear hB9 hz9 hk9 hvm9 ht9 hw9
  generalize H1 = H at hP hS ⊢
  have F_r_2 := fun b h => (o_r_2 b h).2
  have o_r_2 := fun b h => (o_r_2 b h).1
  have J_18 : ∀ (v_3 : Option Nat) (H : Heap) (locs : List Loc) (ls : Array Slot), (∀ b, v_3 = some b → gC ws b 7) → va_P (gD g) cl0 ws H → va_D A ws → va_S A s.heap H locs → lv_has ls 5 [(3, .int x3)] → W p l e (headSpec (wt yX12_height cX12_height 5 (some .int)) ({ frames := 2, cells := 0, slots := 0, locals := 44 })).room s m ([.ref h0, .int x1, .int x2, .int x3] : List Value).toArray below meth c H locs (0) (0) (MQ below (va_Qi (fun (r : Int32) (u9 : Unit) => True) (gQ0 g A ws) A) ([.ref h0, .int x1, .int x2, .int x3] : List Value).toArray s (0) (0) A) (F0 m 18 ls [va_rf v_3]) := by
    intro v_3 H locs ls  o_v_3 hP hD hS hl
    rcases v_3 with _ | b_6
    · skip
      refine lv_astoreN (lv' := [(4, .null), (3, .int x3)]) hx hb dX12_height_18 hl (by decide) rfl (fun ls hl => ?_)
      refine lv_aloadN hx hb dX12_height_20 (lv_at hl 0 rfl) ?_
      have J_35 : ∀ (t_7 : Int32) (H : Heap) (locs : List Loc) (ls : Array Slot), va_P (gD g) cl0 ws H → va_D A ws → va_S A s.heap H locs → lv_has ls 5 [] → W p l e (headSpec (wt yX12_height cX12_height 5 (some .int)) ({ frames := 2, cells := 0, slots := 0, locals := 44 })).room s m ([.ref h0, .int x1, .int x2, .int x3] : List Value).toArray below meth c H locs (0) (0) (MQ below (va_Qi (fun (r : Int32) (u9 : Unit) => True) (gQ0 g A ws) A) ([.ref h0, .int x1, .int x2, .int x3] : List Value).toArray s (0) (0) A) (F0 m 35 ls [.int t_7]) := by
        intro t_7 H locs ls  hP hD hS hl
        refine W.widen (k := 0) (n := 0) (Nat.le_of_ble_eq_true rfl) (Nat.le_of_ble_eq_true rfl) ?_
        exact W.iret (v := t_7) hx hb hr (fun t9 ht9 hW9 => ⟨⟨_, (), rfl, trivial, ⟨by rw [ht9]; exact hP, hD⟩⟩, hS.F ht9⟩) hS.2.2 dX12_height_35
      refine lv_ifnonnullN hx hb dX12_height_22 ?_
      refine lv_iconst (v := (-1)) hx hb dX12_height_25 (by decide) ?_
      refine lv_goto (tgt := 35) hx hb dX12_height_26 (by decide) ?_
      exact J_35 ((-1)) H locs ls  hP hD hS (lv_sub hl [] rfl)
    · have o_b_6 := o_v_3 _ rfl
      refine lv_astore (lv' := [(4, .ref b_6), (3, .int x3)]) hx hb dX12_height_18 hl (by decide) rfl (fun ls hl => ?_)
      refine lv_aload hx hb dX12_height_20 (lv_at hl 0 rfl) ?_
      have J_35 : ∀ (t_10 : Int32) (H : Heap) (locs : List Loc) (ls : Array Slot), va_P (gD g) cl0 ws H → va_D A ws → va_S A s.heap H locs → lv_has ls 5 [] → W p l e (headSpec (wt yX12_height cX12_height 5 (some .int)) ({ frames := 2, cells := 0, slots := 0, locals := 44 })).room s m ([.ref h0, .int x1, .int x2, .int x3] : List Value).toArray below meth c H locs (0) (0) (MQ below (va_Qi (fun (r : Int32) (u9 : Unit) => True) (gQ0 g A ws) A) ([.ref h0, .int x1, .int x2, .int x3] : List Value).toArray s (0) (0) A) (F0 m 35 ls [.int t_10]) := by
        intro t_10 H locs ls  hP hD hS hl
        refine W.widen (k := 0) (n := 0) (Nat.le_of_ble_eq_true rfl) (Nat.le_of_ble_eq_true rfl) ?_
        exact W.iret (v := t_10) hx hb hr (fun t9 ht9 hW9 => ⟨⟨_, (), rfl, trivial, ⟨by rw [ht9]; exact hP, hD⟩⟩, hS.F ht9⟩) hS.2.2 dX12_height_35
      refine lv_ifnonnull (tgt := 29) hx hb dX12_height_22 (by decide) ?_
      refine lv_aload hx hb dX12_height_29 (lv_at hl 0 rfl) ?_
      refine lv_iload_n hx hb dX12_height_31 rfl (lv_at hl 1 rfl) ?_
      have hFc := gfree hD hS hA
      obtain ⟨k_13, fs_13, hk_13⟩ := gC_of o_b_6
      refine va_calli (va_runV (As := [.int x3]) (rest := []) ⟨hx, hb, hml, hown, hts⟩ (m_X8_heightAt l g H.size ws b_6 (x3) hG o_b_6) (cwV 1 hts (gd_V kw_375 kw_1493 kw_1494 kw_782 kw_1492) rfl rfl rfl (by decide +kernel) ⟨Nat.le_of_ble_eq_true rfl, Nat.le_of_ble_eq_true rfl⟩) ⟨gblind, va_recv hK hP (ci := 7) (q0 := k_13) rfl hk_13, fun U hU hW9 => gmk hU hW9 hP hK hD hex hE hS hFc⟩ rfl rfl hl.1 rfl (lv_room (Nat.le_of_ble_eq_true rfl)) dX12_height_32 ⟨Nat.le_of_ble_eq_true rfl, Nat.le_of_ble_eq_true rfl⟩) hS (fun q _ h => hFc q h) hFc (fun r_14 u9 t9 H1 locs ht9 hvm9 hw9 hB9 hz9 hk9 hS => ?_)
      have hP : va_P (gD g) cl0 ws H1 := by rw [← ht9]; exact hB9.1
      clear hB9 hz9 hk9 hvm9 ht9 hw9
      generalize H1 = H at hP hS ⊢
      exact J_35 (r_14) H locs ls  hP hD hS (lv_sub hl [] rfl)
  rcases r_2 with _ | b_15
  · skip
    have J_18 : ∀ (v_16 : Option Nat) (H : Heap) (locs : List Loc) (ls : Array Slot), (∀ b, v_16 = some b → gC ws b 7) → va_P (gD g) cl0 ws H → va_D A ws → va_S A s.heap H locs → lv_has ls 5 [(3, .int x3)] → W p l e (headSpec (wt yX12_height cX12_height 5 (some .int)) ({ frames := 2, cells := 0, slots := 0, locals := 44 })).room s m ([.ref h0, .int x1, .int x2, .int x3] : List Value).toArray below meth c H locs (0) (0) (MQ below (va_Qi (fun (r : Int32) (u9 : Unit) => True) (gQ0 g A ws) A) ([.ref h0, .int x1, .int x2, .int x3] : List Value).toArray s (0) (0) A) (F0 m 18 ls [va_rf v_16]) := by
      intro v_16 H locs ls  o_v_16 hP hD hS hl
      rcases v_16 with _ | b_19
      · skip
        refine lv_astoreN (lv' := [(4, .null), (3, .int x3)]) hx hb dX12_height_18 hl (by decide) rfl (fun ls hl => ?_)
        refine lv_aloadN hx hb dX12_height_20 (lv_at hl 0 rfl) ?_
        have J_35 : ∀ (t_20 : Int32) (H : Heap) (locs : List Loc) (ls : Array Slot), va_P (gD g) cl0 ws H → va_D A ws → va_S A s.heap H locs → lv_has ls 5 [] → W p l e (headSpec (wt yX12_height cX12_height 5 (some .int)) ({ frames := 2, cells := 0, slots := 0, locals := 44 })).room s m ([.ref h0, .int x1, .int x2, .int x3] : List Value).toArray below meth c H locs (0) (0) (MQ below (va_Qi (fun (r : Int32) (u9 : Unit) => True) (gQ0 g A ws) A) ([.ref h0, .int x1, .int x2, .int x3] : List Value).toArray s (0) (0) A) (F0 m 35 ls [.int t_20]) := by
          intro t_20 H locs ls  hP hD hS hl
          refine W.widen (k := 0) (n := 0) (Nat.le_of_ble_eq_true rfl) (Nat.le_of_ble_eq_true rfl) ?_
          exact W.iret (v := t_20) hx hb hr (fun t9 ht9 hW9 => ⟨⟨_, (), rfl, trivial, ⟨by rw [ht9]; exact hP, hD⟩⟩, hS.F ht9⟩) hS.2.2 dX12_height_35
        refine lv_ifnonnullN hx hb dX12_height_22 ?_
        refine lv_iconst (v := (-1)) hx hb dX12_height_25 (by decide) ?_
        refine lv_goto (tgt := 35) hx hb dX12_height_26 (by decide) ?_
        exact J_35 ((-1)) H locs ls  hP hD hS (lv_sub hl [] rfl)
      · have o_b_19 := o_v_16 _ rfl
        refine lv_astore (lv' := [(4, .ref b_19), (3, .int x3)]) hx hb dX12_height_18 hl (by decide) rfl (fun ls hl => ?_)
        refine lv_aload hx hb dX12_height_20 (lv_at hl 0 rfl) ?_
        have J_35 : ∀ (t_23 : Int32) (H : Heap) (locs : List Loc) (ls : Array Slot), va_P (gD g) cl0 ws H → va_D A ws → va_S A s.heap H locs → lv_has ls 5 [] → W p l e (headSpec (wt yX12_height cX12_height 5 (some .int)) ({ frames := 2, cells := 0, slots := 0, locals := 44 })).room s m ([.ref h0, .int x1, .int x2, .int x3] : List Value).toArray below meth c H locs (0) (0) (MQ below (va_Qi (fun (r : Int32) (u9 : Unit) => True) (gQ0 g A ws) A) ([.ref h0, .int x1, .int x2, .int x3] : List Value).toArray s (0) (0) A) (F0 m 35 ls [.int t_23]) := by
          intro t_23 H locs ls  hP hD hS hl
          refine W.widen (k := 0) (n := 0) (Nat.le_of_ble_eq_true rfl) (Nat.le_of_ble_eq_true rfl) ?_
          exact W.iret (v := t_23) hx hb hr (fun t9 ht9 hW9 => ⟨⟨_, (), rfl, trivial, ⟨by rw [ht9]; exact hP, hD⟩⟩, hS.F ht9⟩) hS.2.2 dX12_height_35
        refine lv_ifnonnull (tgt := 29) hx hb dX12_height_22 (by decide) ?_
        refine lv_aload hx hb dX12_height_29 (lv_at hl 0 rfl) ?_
        refine lv_iload_n hx hb dX12_height_31 rfl (lv_at hl 1 rfl) ?_
        have hFc := gfree hD hS hA
        obtain ⟨k_26, fs_26, hk_26⟩ := gC_of o_b_19
        refine va_calli (va_runV (As := [.int x3]) (rest := []) ⟨hx, hb, hml, hown, hts⟩ (m_X8_heightAt l g H.size ws b_19 (x3) hG o_b_19) (cwV 1 hts (gd_V kw_375 kw_1493 kw_1494 kw_782 kw_1492) rfl rfl rfl (by decide +kernel) ⟨Nat.le_of_ble_eq_true rfl, Nat.le_of_ble_eq_true rfl⟩) ⟨gblind, va_recv hK hP (ci := 7) (q0 := k_26) rfl hk_26, fun U hU hW9 => gmk hU hW9 hP hK hD hex hE hS hFc⟩ rfl rfl hl.1 rfl (lv_room (Nat.le_of_ble_eq_true rfl)) dX12_height_32 ⟨Nat.le_of_ble_eq_true rfl, Nat.le_of_ble_eq_true rfl⟩) hS (fun q _ h => hFc q h) hFc (fun r_27 u9 t9 H1 locs ht9 hvm9 hw9 hB9 hz9 hk9 hS => ?_)
        have hP : va_P (gD g) cl0 ws H1 := by rw [← ht9]; exact hB9.1
        clear hB9 hz9 hk9 hvm9 ht9 hw9
        generalize H1 = H at hP hS ⊢
        exact J_35 (r_27) H locs ls  hP hD hS (lv_sub hl [] rfl)
    refine lv_ifnonnullN hx hb dX12_height_5 ?_
    refine lv_null hx hb dX12_height_8 ?_
    refine lv_goto (tgt := 18) hx hb dX12_height_9 (by decide) ?_
    exact J_18 none H locs ls (fun b h9 => by cases h9) hP hD hS (lv_sub hl [3] rfl)
  · have o_b_15 := o_r_2 _ rfl
    have F_b_15 := F_r_2 _ rfl
    have J_18 : ∀ (v_28 : Option Nat) (H : Heap) (locs : List Loc) (ls : Array Slot), (∀ b, v_28 = some b → gC ws b 7) → va_P (gD g) cl0 ws H → va_D A ws → va_S A s.heap H locs → lv_has ls 5 [(3, .int x3)] → W p l e (headSpec (wt yX12_height cX12_height 5 (some .int)) ({ frames := 2, cells := 0, slots := 0, locals := 44 })).room s m ([.ref h0, .int x1, .int x2, .int x3] : List Value).toArray below meth c H locs (0) (0) (MQ below (va_Qi (fun (r : Int32) (u9 : Unit) => True) (gQ0 g A ws) A) ([.ref h0, .int x1, .int x2, .int x3] : List Value).toArray s (0) (0) A) (F0 m 18 ls [va_rf v_28]) := by
      intro v_28 H locs ls  o_v_28 hP hD hS hl
      rcases v_28 with _ | b_31
      · skip
        refine lv_astoreN (lv' := [(4, .null), (3, .int x3)]) hx hb dX12_height_18 hl (by decide) rfl (fun ls hl => ?_)
        refine lv_aloadN hx hb dX12_height_20 (lv_at hl 0 rfl) ?_
        have J_35 : ∀ (t_32 : Int32) (H : Heap) (locs : List Loc) (ls : Array Slot), va_P (gD g) cl0 ws H → va_D A ws → va_S A s.heap H locs → lv_has ls 5 [] → W p l e (headSpec (wt yX12_height cX12_height 5 (some .int)) ({ frames := 2, cells := 0, slots := 0, locals := 44 })).room s m ([.ref h0, .int x1, .int x2, .int x3] : List Value).toArray below meth c H locs (0) (0) (MQ below (va_Qi (fun (r : Int32) (u9 : Unit) => True) (gQ0 g A ws) A) ([.ref h0, .int x1, .int x2, .int x3] : List Value).toArray s (0) (0) A) (F0 m 35 ls [.int t_32]) := by
          intro t_32 H locs ls  hP hD hS hl
          refine W.widen (k := 0) (n := 0) (Nat.le_of_ble_eq_true rfl) (Nat.le_of_ble_eq_true rfl) ?_
          exact W.iret (v := t_32) hx hb hr (fun t9 ht9 hW9 => ⟨⟨_, (), rfl, trivial, ⟨by rw [ht9]; exact hP, hD⟩⟩, hS.F ht9⟩) hS.2.2 dX12_height_35
        refine lv_ifnonnullN hx hb dX12_height_22 ?_
        refine lv_iconst (v := (-1)) hx hb dX12_height_25 (by decide) ?_
        refine lv_goto (tgt := 35) hx hb dX12_height_26 (by decide) ?_
        exact J_35 ((-1)) H locs ls  hP hD hS (lv_sub hl [] rfl)
      · have o_b_31 := o_v_28 _ rfl
        refine lv_astore (lv' := [(4, .ref b_31), (3, .int x3)]) hx hb dX12_height_18 hl (by decide) rfl (fun ls hl => ?_)
        refine lv_aload hx hb dX12_height_20 (lv_at hl 0 rfl) ?_
        have J_35 : ∀ (t_35 : Int32) (H : Heap) (locs : List Loc) (ls : Array Slot), va_P (gD g) cl0 ws H → va_D A ws → va_S A s.heap H locs → lv_has ls 5 [] → W p l e (headSpec (wt yX12_height cX12_height 5 (some .int)) ({ frames := 2, cells := 0, slots := 0, locals := 44 })).room s m ([.ref h0, .int x1, .int x2, .int x3] : List Value).toArray below meth c H locs (0) (0) (MQ below (va_Qi (fun (r : Int32) (u9 : Unit) => True) (gQ0 g A ws) A) ([.ref h0, .int x1, .int x2, .int x3] : List Value).toArray s (0) (0) A) (F0 m 35 ls [.int t_35]) := by
          intro t_35 H locs ls  hP hD hS hl
          refine W.widen (k := 0) (n := 0) (Nat.le_of_ble_eq_true rfl) (Nat.le_of_ble_eq_true rfl) ?_
          exact W.iret (v := t_35) hx hb hr (fun t9 ht9 hW9 => ⟨⟨_, (), rfl, trivial, ⟨by rw [ht9]; exact hP, hD⟩⟩, hS.F ht9⟩) hS.2.2 dX12_height_35
        refine lv_ifnonnull (tgt := 29) hx hb dX12_height_22 (by decide) ?_
        refine lv_aload hx hb dX12_height_29 (lv_at hl 0 rfl) ?_
        refine lv_iload_n hx hb dX12_height_31 rfl (lv_at hl 1 rfl) ?_
        have hFc := gfree hD hS hA
        obtain ⟨k_38, fs_38, hk_38⟩ := gC_of o_b_31
        refine va_calli (va_runV (As := [.int x3]) (rest := []) ⟨hx, hb, hml, hown, hts⟩ (m_X8_heightAt l g H.size ws b_31 (x3) hG o_b_31) (cwV 1 hts (gd_V kw_375 kw_1493 kw_1494 kw_782 kw_1492) rfl rfl rfl (by decide +kernel) ⟨Nat.le_of_ble_eq_true rfl, Nat.le_of_ble_eq_true rfl⟩) ⟨gblind, va_recv hK hP (ci := 7) (q0 := k_38) rfl hk_38, fun U hU hW9 => gmk hU hW9 hP hK hD hex hE hS hFc⟩ rfl rfl hl.1 rfl (lv_room (Nat.le_of_ble_eq_true rfl)) dX12_height_32 ⟨Nat.le_of_ble_eq_true rfl, Nat.le_of_ble_eq_true rfl⟩) hS (fun q _ h => hFc q h) hFc (fun r_39 u9 t9 H1 locs ht9 hvm9 hw9 hB9 hz9 hk9 hS => ?_)
        have hP : va_P (gD g) cl0 ws H1 := by rw [← ht9]; exact hB9.1
        clear hB9 hz9 hk9 hvm9 ht9 hw9
        generalize H1 = H at hP hS ⊢
        exact J_35 (r_39) H locs ls  hP hD hS (lv_sub hl [] rfl)
    refine lv_ifnonnull (tgt := 12) hx hb dX12_height_5 (by decide) ?_
    refine lv_aload_n hx hb dX12_height_12 rfl (lv_at hl 0 rfl) ?_
    refine lv_iload_n hx hb dX12_height_13 rfl (lv_at hl 1 rfl) ?_
    refine lv_iload_n hx hb dX12_height_14 rfl (lv_at hl 2 rfl) ?_
    have hFc := gfree hD hS hA
    obtain ⟨k_40, fs_40, hk_40⟩ := gC_of o_h0
    refine va_callq (va_runV (As := [.int x1, .int x2]) (rest := []) ⟨hx, hb, hml, hown, hts⟩ (m_X12_rowAt l g H.size ws h0 (x1) (x2) hG o_h0) (cwV 2 hts (gd_V kw_299 kw_429 kw_430 kw_280 kw_428) rfl rfl rfl (by decide +kernel) ⟨Nat.le_of_ble_eq_true rfl, Nat.le_of_ble_eq_true rfl⟩) ⟨gblind, va_recv hK hP (ci := 11) (q0 := k_40) rfl hk_40, fun U hU hW9 => gmk hU hW9 hP hK hD hex hE hS hFc⟩ rfl rfl hl.1 rfl (lv_room (Nat.le_of_ble_eq_true rfl)) dX12_height_15 ⟨Nat.le_of_ble_eq_true rfl, Nat.le_of_ble_eq_true rfl⟩) hS (fun q _ h => hFc q h) hFc (fun r_41 u9 t9 H1 locs ht9 hvm9 hw9 hB9 hz9 hk9 hS => ?_)
    have hP : va_P (gD g) cl0 ws H1 := by rw [← ht9]; exact hB9.1
    have o_r_41 := hw9
    clear hB9 hz9 hk9 hvm9 ht9 hw9
    generalize H1 = H at hP hS ⊢
    exact J_18 (r_41) H locs ls o_r_41 hP hD hS (lv_sub hl [3] rfl)
set_option maxHeartbeats 1000000 in
set_option maxRecDepth 100000 in
theorem m_X12_local (l : Launch) (g : Gm) (sz : Nat) (ws : va_W) (h0 : Nat) (x1 : Int32) (x2 : Int32) (x3 : Int32) (x4 : Int32) (hG : Good g ws) (o_h0 : gC ws h0 11) : Met l yX12_local (wt yX12_local cX12_local 6 (some .int)) ({ frames := 2, cells := 0, slots := 0, locals := 44 }) (va_Pc [.ref h0, .int x1, .int x2, .int x3, .int x4] (st_G g sz ws)) (va_Qi (fun (r : Int32) (u9 : Unit) => True) (gQ0 g (va_A ws sz) ws) (va_A ws sz)) (0) (0) (va_A ws sz) := by
  refine Met.ofW (cc := cX12_local) (maxL := 6) (ret := (some .int)) (by decide) rfl ?_
  intro p e s m args below meth c s₁ B hml hv
  obtain ⟨rfl, hsz, hP, hK, hD0, hex, hE⟩ := hv
  have hx := B.exec
  have hb := B.bytes
  have hr := B.returns
  have hts0 := atoms_spec (ws := wt yX12_local cX12_local 6 (some .int)) B.pre
  have hts : ∀ w ∈ tb, w.before _ s = true := fun w h => hts0 w (List.mem_cons_of_mem _ h)
  have hown : s.vm.findClass RX12 = some m.cls := findClass_of_methodNamed B.named
  subst hsz
  have hD := hD0.self (sz := s.heap.size)
  generalize hAe : va_A ws s.heap.size = A at hD hE ⊢
  have hA : ∀ q : Nat, s.heap.size ≤ q → A q := fun q h => by rw [← hAe]; exact Or.inr h
  have hS : va_S A s.heap s.heap [] := va_S.rf
  have hl := lv_entry ([.ref h0, .int x1, .int x2, .int x3, .int x4]) (n := 6) (Nat.le_of_ble_eq_true rfl)
  rw [lg_entry_eq]
  generalize (lg_sl ([.ref h0, .int x1, .int x2, .int x3, .int x4]) ++ List.replicate (6 - (lg_sl ([.ref h0, .int x1, .int x2, .int x3, .int x4])).length) Slot.unset).toArray = ls at hl ⊢
  have hl : lv_has ls 6 [(0, .ref h0), (1, .int x1), (2, .int x2), (3, .int x3), (4, .int x4)] := hl
  refine lv_aload_n hx hb dX12_local_0 rfl (lv_at hl 0 rfl) ?_
  refine lv_iload_n hx hb dX12_local_1 rfl (lv_at hl 1 rfl) ?_
  have hFc := gfree hD hS hA
  obtain ⟨k_1, fs_1, hk_1⟩ := gC_of o_h0
  refine va_callq (va_runV (As := [.int x1]) (rest := []) ⟨hx, hb, hml, hown, hts⟩ (m_X12_soundUnitAt l g s.heap.size ws h0 (x1) hG o_h0) (cwV 1 hts (gd_V kw_316 kw_447 kw_448 kw_280 kw_446) rfl rfl rfl (by decide +kernel) ⟨Nat.le_of_ble_eq_true rfl, Nat.le_of_ble_eq_true rfl⟩) ⟨gblind, va_recv hK hP (ci := 11) (q0 := k_1) rfl hk_1, fun U hU hW9 => gmk hU hW9 hP hK hD hex hE hS hFc⟩ rfl rfl hl.1 rfl (lv_room (Nat.le_of_ble_eq_true rfl)) dX12_local_2 ⟨Nat.le_of_ble_eq_true rfl, Nat.le_of_ble_eq_true rfl⟩) hS (fun q _ h => hFc q h) hFc (fun r_2 u9 t9 H1 locs ht9 hvm9 hw9 hB9 hz9 hk9 hS => ?_)
  have hP : va_P (gD g) cl0 ws H1 := by rw [← ht9]; exact hB9.1
  have o_r_2 := hw9
  clear hB9 hz9 hk9 hvm9 ht9 hw9
  generalize H1 = H at hP hS ⊢
  have F_r_2 := fun b h => (o_r_2 b h).2
  have o_r_2 := fun b h => (o_r_2 b h).1
  have J_18 : ∀ (v_3 : Option Nat) (H : Heap) (locs : List Loc) (ls : Array Slot), (∀ b, v_3 = some b → gC ws b 7) → va_P (gD g) cl0 ws H → va_D A ws → va_S A s.heap H locs → lv_has ls 6 [(3, .int x3), (4, .int x4)] → W p l e (headSpec (wt yX12_local cX12_local 6 (some .int)) ({ frames := 2, cells := 0, slots := 0, locals := 44 })).room s m ([.ref h0, .int x1, .int x2, .int x3, .int x4] : List Value).toArray below meth c H locs (0) (0) (MQ below (va_Qi (fun (r : Int32) (u9 : Unit) => True) (gQ0 g A ws) A) ([.ref h0, .int x1, .int x2, .int x3, .int x4] : List Value).toArray s (0) (0) A) (F0 m 18 ls [va_rf v_3]) := by
    intro v_3 H locs ls  o_v_3 hP hD hS hl
    rcases v_3 with _ | b_6
    · skip
      refine lv_astoreN (lv' := [(5, .null), (3, .int x3), (4, .int x4)]) hx hb dX12_local_18 hl (by decide) rfl (fun ls hl => ?_)
      refine lv_aloadN hx hb dX12_local_20 (lv_at hl 0 rfl) ?_
      have J_46 : ∀  (H : Heap) (locs : List Loc) (ls : Array Slot), va_P (gD g) cl0 ws H → va_D A ws → va_S A s.heap H locs → lv_has ls 6 [] → W p l e (headSpec (wt yX12_local cX12_local 6 (some .int)) ({ frames := 2, cells := 0, slots := 0, locals := 44 })).room s m ([.ref h0, .int x1, .int x2, .int x3, .int x4] : List Value).toArray below meth c H locs (0) (0) (MQ below (va_Qi (fun (r : Int32) (u9 : Unit) => True) (gQ0 g A ws) A) ([.ref h0, .int x1, .int x2, .int x3, .int x4] : List Value).toArray s (0) (0) A) (F0 m 46 ls []) := by
        intro  H locs ls  hP hD hS hl
        refine lv_iconst (v := (-1)) hx hb dX12_local_46 (by decide) ?_
        refine W.widen (k := 0) (n := 0) (Nat.le_of_ble_eq_true rfl) (Nat.le_of_ble_eq_true rfl) ?_
        exact W.iret (v := (-1)) hx hb hr (fun t9 ht9 hW9 => ⟨⟨_, (), rfl, trivial, ⟨by rw [ht9]; exact hP, hD⟩⟩, hS.F ht9⟩) hS.2.2 dX12_local_47
      refine lv_ifnullN (tgt := 46) hx hb dX12_local_22 (by decide) ?_
      exact J_46  H locs ls  hP hD hS (lv_sub hl [] rfl)
    · have o_b_6 := o_v_3 _ rfl
      refine lv_astore (lv' := [(5, .ref b_6), (3, .int x3), (4, .int x4)]) hx hb dX12_local_18 hl (by decide) rfl (fun ls hl => ?_)
      refine lv_aload hx hb dX12_local_20 (lv_at hl 0 rfl) ?_
      have J_46 : ∀  (H : Heap) (locs : List Loc) (ls : Array Slot), va_P (gD g) cl0 ws H → va_D A ws → va_S A s.heap H locs → lv_has ls 6 [] → W p l e (headSpec (wt yX12_local cX12_local 6 (some .int)) ({ frames := 2, cells := 0, slots := 0, locals := 44 })).room s m ([.ref h0, .int x1, .int x2, .int x3, .int x4] : List Value).toArray below meth c H locs (0) (0) (MQ below (va_Qi (fun (r : Int32) (u9 : Unit) => True) (gQ0 g A ws) A) ([.ref h0, .int x1, .int x2, .int x3, .int x4] : List Value).toArray s (0) (0) A) (F0 m 46 ls []) := by
        intro  H locs ls  hP hD hS hl
        refine lv_iconst (v := (-1)) hx hb dX12_local_46 (by decide) ?_
        refine W.widen (k := 0) (n := 0) (Nat.le_of_ble_eq_true rfl) (Nat.le_of_ble_eq_true rfl) ?_
        exact W.iret (v := (-1)) hx hb hr (fun t9 ht9 hW9 => ⟨⟨_, (), rfl, trivial, ⟨by rw [ht9]; exact hP, hD⟩⟩, hS.F ht9⟩) hS.2.2 dX12_local_47
      refine lv_ifnull hx hb dX12_local_22 ?_
      refine lv_aload hx hb dX12_local_25 (lv_at hl 0 rfl) ?_
      refine lv_iload_n hx hb dX12_local_27 rfl (lv_at hl 1 rfl) ?_
      have hFc := gfree hD hS hA
      obtain ⟨k_11, fs_11, hk_11⟩ := gC_of o_b_6
      refine va_calli (va_runV (As := [.int x3]) (rest := []) ⟨hx, hb, hml, hown, hts⟩ (m_X8_heightAt l g H.size ws b_6 (x3) hG o_b_6) (cwV 1 hts (gd_V kw_375 kw_1493 kw_1494 kw_782 kw_1492) rfl rfl rfl (by decide +kernel) ⟨Nat.le_of_ble_eq_true rfl, Nat.le_of_ble_eq_true rfl⟩) ⟨gblind, va_recv hK hP (ci := 7) (q0 := k_11) rfl hk_11, fun U hU hW9 => gmk hU hW9 hP hK hD hex hE hS hFc⟩ rfl rfl hl.1 rfl (lv_room (Nat.le_of_ble_eq_true rfl)) dX12_local_28 ⟨Nat.le_of_ble_eq_true rfl, Nat.le_of_ble_eq_true rfl⟩) hS (fun q _ h => hFc q h) hFc (fun r_12 u9 t9 H1 locs ht9 hvm9 hw9 hB9 hz9 hk9 hS => ?_)
      have hP : va_P (gD g) cl0 ws H1 := by rw [← ht9]; exact hB9.1
      clear hB9 hz9 hk9 hvm9 ht9 hw9
      generalize H1 = H at hP hS ⊢
      refine lv_if_lt (tgt := 46) hx hb dX12_local_31 (by decide) (fun c_13 => ?_) (fun c_13 => ?_)
      · exact J_46  H locs ls  hP hD hS (lv_sub hl [] rfl)
      · refine lv_iload hx hb dX12_local_34 (lv_at hl 2 rfl) ?_
        refine lv_if_lt (tgt := 46) hx hb dX12_local_36 (by decide) (fun c_14 => ?_) (fun c_14 => ?_)
        · exact J_46  H locs ls  hP hD hS (lv_sub hl [] rfl)
        · refine lv_iload hx hb dX12_local_39 (lv_at hl 2 rfl) ?_
          refine lv_bipush (v := 24) hx hb dX12_local_41 (by decide) ?_
          refine lv_icmp_lt (tgt := 48) hx hb dX12_local_43 (by decide) (fun c_15 => ?_) (fun c_15 => ?_)
          · refine lv_aload hx hb dX12_local_48 (lv_at hl 0 rfl) ?_
            refine lv_iload_n hx hb dX12_local_50 rfl (lv_at hl 1 rfl) ?_
            refine lv_iload hx hb dX12_local_51 (lv_at hl 2 rfl) ?_
            have hFc := gfree hD hS hA
            obtain ⟨k_16, fs_16, hk_16⟩ := gC_of o_b_6
            refine va_calli (va_runV (As := [.int x3, .int x4]) (rest := []) ⟨hx, hb, hml, hown, hts⟩ (m_X8_localAt l g H.size ws b_6 (x3) (x4) hG o_b_6) (cwV 2 hts (gd_V kw_417 kw_1504 kw_1505 kw_782 kw_1503) rfl rfl rfl (by decide +kernel) ⟨Nat.le_of_ble_eq_true rfl, Nat.le_of_ble_eq_true rfl⟩) ⟨gblind, va_recv hK hP (ci := 7) (q0 := k_16) rfl hk_16, fun U hU hW9 => gmk hU hW9 hP hK hD hex hE hS hFc⟩ rfl rfl hl.1 rfl (lv_room (Nat.le_of_ble_eq_true rfl)) dX12_local_53 ⟨Nat.le_of_ble_eq_true rfl, Nat.le_of_ble_eq_true rfl⟩) hS (fun q _ h => hFc q h) hFc (fun r_17 u9 t9 H1 locs ht9 hvm9 hw9 hB9 hz9 hk9 hS => ?_)
            have hP : va_P (gD g) cl0 ws H1 := by rw [← ht9]; exact hB9.1
            clear hB9 hz9 hk9 hvm9 ht9 hw9
            generalize H1 = H at hP hS ⊢
            refine W.widen (k := 0) (n := 0) (Nat.le_of_ble_eq_true rfl) (Nat.le_of_ble_eq_true rfl) ?_
            exact W.iret (v := r_17) hx hb hr (fun t9 ht9 hW9 => ⟨⟨_, (), rfl, trivial, ⟨by rw [ht9]; exact hP, hD⟩⟩, hS.F ht9⟩) hS.2.2 dX12_local_56
          · exact J_46  H locs ls  hP hD hS (lv_sub hl [] rfl)
  rcases r_2 with _ | b_18
  · skip
    have J_18 : ∀ (v_19 : Option Nat) (H : Heap) (locs : List Loc) (ls : Array Slot), (∀ b, v_19 = some b → gC ws b 7) → va_P (gD g) cl0 ws H → va_D A ws → va_S A s.heap H locs → lv_has ls 6 [(3, .int x3), (4, .int x4)] → W p l e (headSpec (wt yX12_local cX12_local 6 (some .int)) ({ frames := 2, cells := 0, slots := 0, locals := 44 })).room s m ([.ref h0, .int x1, .int x2, .int x3, .int x4] : List Value).toArray below meth c H locs (0) (0) (MQ below (va_Qi (fun (r : Int32) (u9 : Unit) => True) (gQ0 g A ws) A) ([.ref h0, .int x1, .int x2, .int x3, .int x4] : List Value).toArray s (0) (0) A) (F0 m 18 ls [va_rf v_19]) := by
      intro v_19 H locs ls  o_v_19 hP hD hS hl
      rcases v_19 with _ | b_22
      · skip
        refine lv_astoreN (lv' := [(5, .null), (3, .int x3), (4, .int x4)]) hx hb dX12_local_18 hl (by decide) rfl (fun ls hl => ?_)
        refine lv_aloadN hx hb dX12_local_20 (lv_at hl 0 rfl) ?_
        have J_46 : ∀  (H : Heap) (locs : List Loc) (ls : Array Slot), va_P (gD g) cl0 ws H → va_D A ws → va_S A s.heap H locs → lv_has ls 6 [] → W p l e (headSpec (wt yX12_local cX12_local 6 (some .int)) ({ frames := 2, cells := 0, slots := 0, locals := 44 })).room s m ([.ref h0, .int x1, .int x2, .int x3, .int x4] : List Value).toArray below meth c H locs (0) (0) (MQ below (va_Qi (fun (r : Int32) (u9 : Unit) => True) (gQ0 g A ws) A) ([.ref h0, .int x1, .int x2, .int x3, .int x4] : List Value).toArray s (0) (0) A) (F0 m 46 ls []) := by
          intro  H locs ls  hP hD hS hl
          refine lv_iconst (v := (-1)) hx hb dX12_local_46 (by decide) ?_
          refine W.widen (k := 0) (n := 0) (Nat.le_of_ble_eq_true rfl) (Nat.le_of_ble_eq_true rfl) ?_
          exact W.iret (v := (-1)) hx hb hr (fun t9 ht9 hW9 => ⟨⟨_, (), rfl, trivial, ⟨by rw [ht9]; exact hP, hD⟩⟩, hS.F ht9⟩) hS.2.2 dX12_local_47
        refine lv_ifnullN (tgt := 46) hx hb dX12_local_22 (by decide) ?_
        exact J_46  H locs ls  hP hD hS (lv_sub hl [] rfl)
      · have o_b_22 := o_v_19 _ rfl
        refine lv_astore (lv' := [(5, .ref b_22), (3, .int x3), (4, .int x4)]) hx hb dX12_local_18 hl (by decide) rfl (fun ls hl => ?_)
        refine lv_aload hx hb dX12_local_20 (lv_at hl 0 rfl) ?_
        have J_46 : ∀  (H : Heap) (locs : List Loc) (ls : Array Slot), va_P (gD g) cl0 ws H → va_D A ws → va_S A s.heap H locs → lv_has ls 6 [] → W p l e (headSpec (wt yX12_local cX12_local 6 (some .int)) ({ frames := 2, cells := 0, slots := 0, locals := 44 })).room s m ([.ref h0, .int x1, .int x2, .int x3, .int x4] : List Value).toArray below meth c H locs (0) (0) (MQ below (va_Qi (fun (r : Int32) (u9 : Unit) => True) (gQ0 g A ws) A) ([.ref h0, .int x1, .int x2, .int x3, .int x4] : List Value).toArray s (0) (0) A) (F0 m 46 ls []) := by
          intro  H locs ls  hP hD hS hl
          refine lv_iconst (v := (-1)) hx hb dX12_local_46 (by decide) ?_
          refine W.widen (k := 0) (n := 0) (Nat.le_of_ble_eq_true rfl) (Nat.le_of_ble_eq_true rfl) ?_
          exact W.iret (v := (-1)) hx hb hr (fun t9 ht9 hW9 => ⟨⟨_, (), rfl, trivial, ⟨by rw [ht9]; exact hP, hD⟩⟩, hS.F ht9⟩) hS.2.2 dX12_local_47
        refine lv_ifnull hx hb dX12_local_22 ?_
        refine lv_aload hx hb dX12_local_25 (lv_at hl 0 rfl) ?_
        refine lv_iload_n hx hb dX12_local_27 rfl (lv_at hl 1 rfl) ?_
        have hFc := gfree hD hS hA
        obtain ⟨k_27, fs_27, hk_27⟩ := gC_of o_b_22
        refine va_calli (va_runV (As := [.int x3]) (rest := []) ⟨hx, hb, hml, hown, hts⟩ (m_X8_heightAt l g H.size ws b_22 (x3) hG o_b_22) (cwV 1 hts (gd_V kw_375 kw_1493 kw_1494 kw_782 kw_1492) rfl rfl rfl (by decide +kernel) ⟨Nat.le_of_ble_eq_true rfl, Nat.le_of_ble_eq_true rfl⟩) ⟨gblind, va_recv hK hP (ci := 7) (q0 := k_27) rfl hk_27, fun U hU hW9 => gmk hU hW9 hP hK hD hex hE hS hFc⟩ rfl rfl hl.1 rfl (lv_room (Nat.le_of_ble_eq_true rfl)) dX12_local_28 ⟨Nat.le_of_ble_eq_true rfl, Nat.le_of_ble_eq_true rfl⟩) hS (fun q _ h => hFc q h) hFc (fun r_28 u9 t9 H1 locs ht9 hvm9 hw9 hB9 hz9 hk9 hS => ?_)
        have hP : va_P (gD g) cl0 ws H1 := by rw [← ht9]; exact hB9.1
        clear hB9 hz9 hk9 hvm9 ht9 hw9
        generalize H1 = H at hP hS ⊢
        refine lv_if_lt (tgt := 46) hx hb dX12_local_31 (by decide) (fun c_29 => ?_) (fun c_29 => ?_)
        · exact J_46  H locs ls  hP hD hS (lv_sub hl [] rfl)
        · refine lv_iload hx hb dX12_local_34 (lv_at hl 2 rfl) ?_
          refine lv_if_lt (tgt := 46) hx hb dX12_local_36 (by decide) (fun c_30 => ?_) (fun c_30 => ?_)
          · exact J_46  H locs ls  hP hD hS (lv_sub hl [] rfl)
          · refine lv_iload hx hb dX12_local_39 (lv_at hl 2 rfl) ?_
            refine lv_bipush (v := 24) hx hb dX12_local_41 (by decide) ?_
            refine lv_icmp_lt (tgt := 48) hx hb dX12_local_43 (by decide) (fun c_31 => ?_) (fun c_31 => ?_)
            · refine lv_aload hx hb dX12_local_48 (lv_at hl 0 rfl) ?_
              refine lv_iload_n hx hb dX12_local_50 rfl (lv_at hl 1 rfl) ?_
              refine lv_iload hx hb dX12_local_51 (lv_at hl 2 rfl) ?_
              have hFc := gfree hD hS hA
              obtain ⟨k_32, fs_32, hk_32⟩ := gC_of o_b_22
              refine va_calli (va_runV (As := [.int x3, .int x4]) (rest := []) ⟨hx, hb, hml, hown, hts⟩ (m_X8_localAt l g H.size ws b_22 (x3) (x4) hG o_b_22) (cwV 2 hts (gd_V kw_417 kw_1504 kw_1505 kw_782 kw_1503) rfl rfl rfl (by decide +kernel) ⟨Nat.le_of_ble_eq_true rfl, Nat.le_of_ble_eq_true rfl⟩) ⟨gblind, va_recv hK hP (ci := 7) (q0 := k_32) rfl hk_32, fun U hU hW9 => gmk hU hW9 hP hK hD hex hE hS hFc⟩ rfl rfl hl.1 rfl (lv_room (Nat.le_of_ble_eq_true rfl)) dX12_local_53 ⟨Nat.le_of_ble_eq_true rfl, Nat.le_of_ble_eq_true rfl⟩) hS (fun q _ h => hFc q h) hFc (fun r_33 u9 t9 H1 locs ht9 hvm9 hw9 hB9 hz9 hk9 hS => ?_)
              have hP : va_P (gD g) cl0 ws H1 := by rw [← ht9]; exact hB9.1
              clear hB9 hz9 hk9 hvm9 ht9 hw9
              generalize H1 = H at hP hS ⊢
              refine W.widen (k := 0) (n := 0) (Nat.le_of_ble_eq_true rfl) (Nat.le_of_ble_eq_true rfl) ?_
              exact W.iret (v := r_33) hx hb hr (fun t9 ht9 hW9 => ⟨⟨_, (), rfl, trivial, ⟨by rw [ht9]; exact hP, hD⟩⟩, hS.F ht9⟩) hS.2.2 dX12_local_56
            · exact J_46  H locs ls  hP hD hS (lv_sub hl [] rfl)
    refine lv_ifnonnullN hx hb dX12_local_5 ?_
    refine lv_null hx hb dX12_local_8 ?_
    refine lv_goto (tgt := 18) hx hb dX12_local_9 (by decide) ?_
    exact J_18 none H locs ls (fun b h9 => by cases h9) hP hD hS (lv_sub hl [3, 4] rfl)
  · have o_b_18 := o_r_2 _ rfl
    have F_b_18 := F_r_2 _ rfl
    have J_18 : ∀ (v_34 : Option Nat) (H : Heap) (locs : List Loc) (ls : Array Slot), (∀ b, v_34 = some b → gC ws b 7) → va_P (gD g) cl0 ws H → va_D A ws → va_S A s.heap H locs → lv_has ls 6 [(3, .int x3), (4, .int x4)] → W p l e (headSpec (wt yX12_local cX12_local 6 (some .int)) ({ frames := 2, cells := 0, slots := 0, locals := 44 })).room s m ([.ref h0, .int x1, .int x2, .int x3, .int x4] : List Value).toArray below meth c H locs (0) (0) (MQ below (va_Qi (fun (r : Int32) (u9 : Unit) => True) (gQ0 g A ws) A) ([.ref h0, .int x1, .int x2, .int x3, .int x4] : List Value).toArray s (0) (0) A) (F0 m 18 ls [va_rf v_34]) := by
      intro v_34 H locs ls  o_v_34 hP hD hS hl
      rcases v_34 with _ | b_37
      · skip
        refine lv_astoreN (lv' := [(5, .null), (3, .int x3), (4, .int x4)]) hx hb dX12_local_18 hl (by decide) rfl (fun ls hl => ?_)
        refine lv_aloadN hx hb dX12_local_20 (lv_at hl 0 rfl) ?_
        have J_46 : ∀  (H : Heap) (locs : List Loc) (ls : Array Slot), va_P (gD g) cl0 ws H → va_D A ws → va_S A s.heap H locs → lv_has ls 6 [] → W p l e (headSpec (wt yX12_local cX12_local 6 (some .int)) ({ frames := 2, cells := 0, slots := 0, locals := 44 })).room s m ([.ref h0, .int x1, .int x2, .int x3, .int x4] : List Value).toArray below meth c H locs (0) (0) (MQ below (va_Qi (fun (r : Int32) (u9 : Unit) => True) (gQ0 g A ws) A) ([.ref h0, .int x1, .int x2, .int x3, .int x4] : List Value).toArray s (0) (0) A) (F0 m 46 ls []) := by
          intro  H locs ls  hP hD hS hl
          refine lv_iconst (v := (-1)) hx hb dX12_local_46 (by decide) ?_
          refine W.widen (k := 0) (n := 0) (Nat.le_of_ble_eq_true rfl) (Nat.le_of_ble_eq_true rfl) ?_
          exact W.iret (v := (-1)) hx hb hr (fun t9 ht9 hW9 => ⟨⟨_, (), rfl, trivial, ⟨by rw [ht9]; exact hP, hD⟩⟩, hS.F ht9⟩) hS.2.2 dX12_local_47
        refine lv_ifnullN (tgt := 46) hx hb dX12_local_22 (by decide) ?_
        exact J_46  H locs ls  hP hD hS (lv_sub hl [] rfl)
      · have o_b_37 := o_v_34 _ rfl
        refine lv_astore (lv' := [(5, .ref b_37), (3, .int x3), (4, .int x4)]) hx hb dX12_local_18 hl (by decide) rfl (fun ls hl => ?_)
        refine lv_aload hx hb dX12_local_20 (lv_at hl 0 rfl) ?_
        have J_46 : ∀  (H : Heap) (locs : List Loc) (ls : Array Slot), va_P (gD g) cl0 ws H → va_D A ws → va_S A s.heap H locs → lv_has ls 6 [] → W p l e (headSpec (wt yX12_local cX12_local 6 (some .int)) ({ frames := 2, cells := 0, slots := 0, locals := 44 })).room s m ([.ref h0, .int x1, .int x2, .int x3, .int x4] : List Value).toArray below meth c H locs (0) (0) (MQ below (va_Qi (fun (r : Int32) (u9 : Unit) => True) (gQ0 g A ws) A) ([.ref h0, .int x1, .int x2, .int x3, .int x4] : List Value).toArray s (0) (0) A) (F0 m 46 ls []) := by
          intro  H locs ls  hP hD hS hl
          refine lv_iconst (v := (-1)) hx hb dX12_local_46 (by decide) ?_
          refine W.widen (k := 0) (n := 0) (Nat.le_of_ble_eq_true rfl) (Nat.le_of_ble_eq_true rfl) ?_
          exact W.iret (v := (-1)) hx hb hr (fun t9 ht9 hW9 => ⟨⟨_, (), rfl, trivial, ⟨by rw [ht9]; exact hP, hD⟩⟩, hS.F ht9⟩) hS.2.2 dX12_local_47
        refine lv_ifnull hx hb dX12_local_22 ?_
        refine lv_aload hx hb dX12_local_25 (lv_at hl 0 rfl) ?_
        refine lv_iload_n hx hb dX12_local_27 rfl (lv_at hl 1 rfl) ?_
        have hFc := gfree hD hS hA
        obtain ⟨k_42, fs_42, hk_42⟩ := gC_of o_b_37
        refine va_calli (va_runV (As := [.int x3]) (rest := []) ⟨hx, hb, hml, hown, hts⟩ (m_X8_heightAt l g H.size ws b_37 (x3) hG o_b_37) (cwV 1 hts (gd_V kw_375 kw_1493 kw_1494 kw_782 kw_1492) rfl rfl rfl (by decide +kernel) ⟨Nat.le_of_ble_eq_true rfl, Nat.le_of_ble_eq_true rfl⟩) ⟨gblind, va_recv hK hP (ci := 7) (q0 := k_42) rfl hk_42, fun U hU hW9 => gmk hU hW9 hP hK hD hex hE hS hFc⟩ rfl rfl hl.1 rfl (lv_room (Nat.le_of_ble_eq_true rfl)) dX12_local_28 ⟨Nat.le_of_ble_eq_true rfl, Nat.le_of_ble_eq_true rfl⟩) hS (fun q _ h => hFc q h) hFc (fun r_43 u9 t9 H1 locs ht9 hvm9 hw9 hB9 hz9 hk9 hS => ?_)
        have hP : va_P (gD g) cl0 ws H1 := by rw [← ht9]; exact hB9.1
        clear hB9 hz9 hk9 hvm9 ht9 hw9
        generalize H1 = H at hP hS ⊢
        refine lv_if_lt (tgt := 46) hx hb dX12_local_31 (by decide) (fun c_44 => ?_) (fun c_44 => ?_)
        · exact J_46  H locs ls  hP hD hS (lv_sub hl [] rfl)
        · refine lv_iload hx hb dX12_local_34 (lv_at hl 2 rfl) ?_
          refine lv_if_lt (tgt := 46) hx hb dX12_local_36 (by decide) (fun c_45 => ?_) (fun c_45 => ?_)
          · exact J_46  H locs ls  hP hD hS (lv_sub hl [] rfl)
          · refine lv_iload hx hb dX12_local_39 (lv_at hl 2 rfl) ?_
            refine lv_bipush (v := 24) hx hb dX12_local_41 (by decide) ?_
            refine lv_icmp_lt (tgt := 48) hx hb dX12_local_43 (by decide) (fun c_46 => ?_) (fun c_46 => ?_)
            · refine lv_aload hx hb dX12_local_48 (lv_at hl 0 rfl) ?_
              refine lv_iload_n hx hb dX12_local_50 rfl (lv_at hl 1 rfl) ?_
              refine lv_iload hx hb dX12_local_51 (lv_at hl 2 rfl) ?_
              have hFc := gfree hD hS hA
              obtain ⟨k_47, fs_47, hk_47⟩ := gC_of o_b_37
              refine va_calli (va_runV (As := [.int x3, .int x4]) (rest := []) ⟨hx, hb, hml, hown, hts⟩ (m_X8_localAt l g H.size ws b_37 (x3) (x4) hG o_b_37) (cwV 2 hts (gd_V kw_417 kw_1504 kw_1505 kw_782 kw_1503) rfl rfl rfl (by decide +kernel) ⟨Nat.le_of_ble_eq_true rfl, Nat.le_of_ble_eq_true rfl⟩) ⟨gblind, va_recv hK hP (ci := 7) (q0 := k_47) rfl hk_47, fun U hU hW9 => gmk hU hW9 hP hK hD hex hE hS hFc⟩ rfl rfl hl.1 rfl (lv_room (Nat.le_of_ble_eq_true rfl)) dX12_local_53 ⟨Nat.le_of_ble_eq_true rfl, Nat.le_of_ble_eq_true rfl⟩) hS (fun q _ h => hFc q h) hFc (fun r_48 u9 t9 H1 locs ht9 hvm9 hw9 hB9 hz9 hk9 hS => ?_)
              have hP : va_P (gD g) cl0 ws H1 := by rw [← ht9]; exact hB9.1
              clear hB9 hz9 hk9 hvm9 ht9 hw9
              generalize H1 = H at hP hS ⊢
              refine W.widen (k := 0) (n := 0) (Nat.le_of_ble_eq_true rfl) (Nat.le_of_ble_eq_true rfl) ?_
              exact W.iret (v := r_48) hx hb hr (fun t9 ht9 hW9 => ⟨⟨_, (), rfl, trivial, ⟨by rw [ht9]; exact hP, hD⟩⟩, hS.F ht9⟩) hS.2.2 dX12_local_56
            · exact J_46  H locs ls  hP hD hS (lv_sub hl [] rfl)
    refine lv_ifnonnull (tgt := 12) hx hb dX12_local_5 (by decide) ?_
    refine lv_aload_n hx hb dX12_local_12 rfl (lv_at hl 0 rfl) ?_
    refine lv_iload_n hx hb dX12_local_13 rfl (lv_at hl 1 rfl) ?_
    refine lv_iload_n hx hb dX12_local_14 rfl (lv_at hl 2 rfl) ?_
    have hFc := gfree hD hS hA
    obtain ⟨k_49, fs_49, hk_49⟩ := gC_of o_h0
    refine va_callq (va_runV (As := [.int x1, .int x2]) (rest := []) ⟨hx, hb, hml, hown, hts⟩ (m_X12_rowAt l g H.size ws h0 (x1) (x2) hG o_h0) (cwV 2 hts (gd_V kw_299 kw_429 kw_430 kw_280 kw_428) rfl rfl rfl (by decide +kernel) ⟨Nat.le_of_ble_eq_true rfl, Nat.le_of_ble_eq_true rfl⟩) ⟨gblind, va_recv hK hP (ci := 11) (q0 := k_49) rfl hk_49, fun U hU hW9 => gmk hU hW9 hP hK hD hex hE hS hFc⟩ rfl rfl hl.1 rfl (lv_room (Nat.le_of_ble_eq_true rfl)) dX12_local_15 ⟨Nat.le_of_ble_eq_true rfl, Nat.le_of_ble_eq_true rfl⟩) hS (fun q _ h => hFc q h) hFc (fun r_50 u9 t9 H1 locs ht9 hvm9 hw9 hB9 hz9 hk9 hS => ?_)
    have hP : va_P (gD g) cl0 ws H1 := by rw [← ht9]; exact hB9.1
    have o_r_50 := hw9
    clear hB9 hz9 hk9 hvm9 ht9 hw9
    generalize H1 = H at hP hS ⊢
    exact J_18 (r_50) H locs ls o_r_50 hP hD hS (lv_sub hl [3, 4] rfl)
set_option maxHeartbeats 1000000 in
set_option maxRecDepth 100000 in
theorem m_X12_stage (l : Launch) (g : Gm) (sz : Nat) (ws : va_W) (h0 : Nat) (x1 : Int32) (hG : Good g ws) (o_h0 : gC ws h0 11) : Met l yX12_stage (wt yX12_stage cX12_stage 3 (some .boolean)) ({ frames := 2, cells := 0, slots := 0, locals := 45 }) (va_Pc [.ref h0, .int x1] (st_G g sz ws)) (va_Qi (fun (r : Int32) (u9 : va_W) => r = 0 ∨ r = 1) (gQ1 g [(5, 0), (5, 3), (5, 5)] [(5, 1)] none (va_A ws sz) ws) (va_A ws sz)) (0) (0) (va_A ws sz) := by
  refine Met.ofW (cc := cX12_stage) (maxL := 3) (ret := (some .boolean)) (by decide) rfl ?_
  intro p e s m args below meth c s₁ B hml hv
  obtain ⟨rfl, hsz, hP, hK, hD0, hex, hE⟩ := hv
  have hx := B.exec
  have hb := B.bytes
  have hr := B.returns
  have hts0 := atoms_spec (ws := wt yX12_stage cX12_stage 3 (some .boolean)) B.pre
  have hts : ∀ w ∈ tb, w.before _ s = true := fun w h => hts0 w (List.mem_cons_of_mem _ h)
  have hown : s.vm.findClass RX12 = some m.cls := findClass_of_methodNamed B.named
  subst hsz
  have hD := hD0.self (sz := s.heap.size)
  generalize hAe : va_A ws s.heap.size = A at hD hE ⊢
  have hA : ∀ q : Nat, s.heap.size ≤ q → A q := fun q h => by rw [← hAe]; exact Or.inr h
  have hS : va_S A s.heap s.heap [] := va_S.rf
  have hl := lv_entry ([.ref h0, .int x1]) (n := 3) (Nat.le_of_ble_eq_true rfl)
  rw [lg_entry_eq]
  generalize (lg_sl ([.ref h0, .int x1]) ++ List.replicate (3 - (lg_sl ([.ref h0, .int x1])).length) Slot.unset).toArray = ls at hl ⊢
  have hl : lv_has ls 3 [(0, .ref h0), (1, .int x1)] := hl
  refine lv_aload_n hx hb dX12_stage_0 rfl (lv_at hl 0 rfl) ?_
  refine lv_iload_n hx hb dX12_stage_1 rfl (lv_at hl 1 rfl) ?_
  have hFc := gfree hD hS hA
  obtain ⟨k_1, fs_1, hk_1⟩ := gC_of o_h0
  refine va_callq (va_runV (As := [.int x1]) (rest := []) ⟨hx, hb, hml, hown, hts⟩ (m_X12_soundUnitAt l g s.heap.size ws h0 (x1) hG o_h0) (cwV 1 hts (gd_V kw_316 kw_447 kw_448 kw_280 kw_446) rfl rfl rfl (by decide +kernel) ⟨Nat.le_of_ble_eq_true rfl, Nat.le_of_ble_eq_true rfl⟩) ⟨gblind, va_recv hK hP (ci := 11) (q0 := k_1) rfl hk_1, fun U hU hW9 => gmk hU hW9 hP hK hD hex hE hS hFc⟩ rfl rfl hl.1 rfl (lv_room (Nat.le_of_ble_eq_true rfl)) dX12_stage_2 ⟨Nat.le_of_ble_eq_true rfl, Nat.le_of_ble_eq_true rfl⟩) hS (fun q _ h => hFc q h) hFc (fun r_2 u9 t9 H1 locs ht9 hvm9 hw9 hB9 hz9 hk9 hS => ?_)
  have hP : va_P (gD g) cl0 ws H1 := by rw [← ht9]; exact hB9.1
  have o_r_2 := hw9
  clear hB9 hz9 hk9 hvm9 ht9 hw9
  generalize H1 = H at hP hS ⊢
  have F_r_2 := fun b h => (o_r_2 b h).2
  have o_r_2 := fun b h => (o_r_2 b h).1
  rcases r_2 with _ | b_3
  · skip
    refine lv_astore_nN (lv' := [(2, .null), (0, .ref h0), (1, .int x1)]) hx hb dX12_stage_5 rfl hl (by decide) rfl (fun ls hl => ?_)
    refine lv_aload_nN hx hb dX12_stage_6 rfl (lv_at hl 0 rfl) ?_
    refine lv_ifnonnullN hx hb dX12_stage_7 ?_
    refine lv_iconst (v := 0) hx hb dX12_stage_10 (by decide) ?_
    refine W.widen (k := 0) (n := 0) (Nat.le_of_ble_eq_true rfl) (Nat.le_of_ble_eq_true rfl) ?_
    exact W.zret (v := 0) hx hb hr (nz (Or.inl rfl)) (fun t9 ht9 hW9 => ⟨⟨_, ws, rfl, (Or.inl rfl), ⟨gE.rf, gF.rf, hG, by rw [ht9]; exact hP, hD⟩⟩, hS.F ht9⟩) hS.2.2 dX12_stage_11
  · have o_b_3 := o_r_2 _ rfl
    have F_b_3 := F_r_2 _ rfl
    refine lv_astore_n (lv' := [(2, .ref b_3), (0, .ref h0), (1, .int x1)]) hx hb dX12_stage_5 rfl hl (by decide) rfl (fun ls hl => ?_)
    refine lv_aload_n hx hb dX12_stage_6 rfl (lv_at hl 0 rfl) ?_
    refine lv_ifnonnull (tgt := 12) hx hb dX12_stage_7 (by decide) ?_
    refine lv_aload_n hx hb dX12_stage_12 rfl (lv_at hl 1 rfl) ?_
    obtain ⟨k_4, fs9, hk_4⟩ := gC_of o_h0
    obtain ⟨r0_4, r1_4, r2_4, r3_4, n3_4, r4_4, r5_4, r6_4, r7_4, r8_4, r9_4, c10_4, c11_4, c12_4, c13_4, c14_4, c15_4, c16_4, c17_4, rfl, o_r0_4, o_r1_4, o_r2_4, a_r3_4, f4_4, o_r4_4, o_r5_4, o_r6_4, o_r7_4, o_r8_4, o_r9_4, f11_4, f12_4, f13_4, f14_4, f15_4, f16_4, f17_4, -⟩ := (hG.1 _ _ _ _ hk_4).hX12 rfl
    refine va_get (D := gD g) (ci := 11) (v := .ref r7_4) (C := RX12) (T := TX12) (N := 18) hx hb hts inX12 hown hK hP k_4 hk_4 rfl 7 (by decide) (hts _ kw_286) (fun _ h9 => h9) rfl dX12_stage_13 ?_
    refine lv_aload_n hx hb dX12_stage_16 rfl (lv_at hl 0 rfl) ?_
    have hFc := gfree hD hS hA
    obtain ⟨k_5, fs_5, hk_5⟩ := gC_of o_r7_4
    refine va_callv (va_runV (As := [.ref b_3]) (rest := []) ⟨hx, hb, hml, hown, hts⟩ (m_X5_setStage l g H.size ws r7_4 b_3 hG o_r7_4 o_b_3 F_b_3) (cwV 1 hts (gd_V kw_454 kw_1154 kw_1155 kw_398 kw_1153) rfl rfl rfl (by decide +kernel) ⟨Nat.le_of_ble_eq_true rfl, Nat.le_of_ble_eq_true rfl⟩) ⟨gblind, va_recv hK hP (ci := 5) (q0 := k_5) rfl hk_5, fun U hU hW9 => gmk hU hW9 hP hK hD hex hE hS hFc⟩ rfl rfl hl.1 rfl (lv_room (Nat.le_of_ble_eq_true rfl)) dX12_stage_17 ⟨Nat.le_of_ble_eq_true rfl, Nat.le_of_ble_eq_true rfl⟩) hS (fun q _ h => hFc q h) hFc (fun  ws_6 t9 H1 locs ht9 hvm9 hw9 hB9 hz9 hk9 hS => ?_)
    obtain ⟨E_7, Fr_8, hG, hP1, hD1⟩ := hB9
    have hP : va_P (gD g) cl0 ws_6 H1 := by rw [← ht9]; exact hP1
    have hD : va_D A ws_6 := hD1.weaken (fun _ _ _ h => hFc _ h)
    clear hP1 hD1 hz9 hk9 hvm9 ht9 hw9
    generalize H1 = H at hP hS ⊢
    have aa_11 := a_r3_4
    have o_h0 := E_7.1 _ _ o_h0
    have o_b_3 := E_7.1 _ _ o_b_3
    have F_b_3 := F_b_3.mo E_7
    refine lv_iconst (v := 1) hx hb dX12_stage_20 (by decide) ?_
    refine W.widen (k := 0) (n := 0) (Nat.le_of_ble_eq_true rfl) (Nat.le_of_ble_eq_true rfl) ?_
    exact W.zret (v := 1) hx hb hr (nz (Or.inr rfl)) (fun t9 ht9 hW9 => ⟨⟨_, ws_6, rfl, (Or.inr rfl), ⟨E_7, Fr_8, hG, by rw [ht9]; exact hP, hD⟩⟩, hS.F ht9⟩) hS.2.2 dX12_stage_21
set_option maxHeartbeats 1000000 in
set_option maxRecDepth 100000 in
theorem m_X12_keep_N (l : Launch) (g : Gm) (sz : Nat) (ws : va_W) (h0 : Nat) (x2 : Int32) (hG : Good g ws) (o_h0 : gC ws h0 11) : Met l yX12_keep (wt yX12_keep cX12_keep 3 (some .int)) ({ frames := 0, cells := 0, slots := 0, locals := 0 }) (va_Pc [.ref h0, .null, .int x2] (st_G g sz ws)) (va_Qi (fun (r : Int32) (u9 : va_W) => True) (gQ1 g [(11, 11)] [(11, 3)] none (va_A ws sz) ws) (va_A ws sz)) (0) (0) (va_A ws sz) := by
  refine Met.ofW (cc := cX12_keep) (maxL := 3) (ret := (some .int)) (by decide) rfl ?_
  intro p e s m args below meth c s₁ B hml hv
  obtain ⟨rfl, hsz, hP, hK, hD0, hex, hE⟩ := hv
  have hx := B.exec
  have hb := B.bytes
  have hr := B.returns
  have hts0 := atoms_spec (ws := wt yX12_keep cX12_keep 3 (some .int)) B.pre
  have hts : ∀ w ∈ tb, w.before _ s = true := fun w h => hts0 w (List.mem_cons_of_mem _ h)
  have hown : s.vm.findClass RX12 = some m.cls := findClass_of_methodNamed B.named
  subst hsz
  have hD := hD0.self (sz := s.heap.size)
  generalize hAe : va_A ws s.heap.size = A at hD hE ⊢
  have hA : ∀ q : Nat, s.heap.size ≤ q → A q := fun q h => by rw [← hAe]; exact Or.inr h
  have hS : va_S A s.heap s.heap [] := va_S.rf
  have hl := lv_entry ([.ref h0, .null, .int x2]) (n := 3) (Nat.le_of_ble_eq_true rfl)
  rw [lg_entry_eq]
  generalize (lg_sl ([.ref h0, .null, .int x2]) ++ List.replicate (3 - (lg_sl ([.ref h0, .null, .int x2])).length) Slot.unset).toArray = ls at hl ⊢
  have hl : lv_has ls 3 [(0, .ref h0), (1, .null), (2, .int x2)] := hl
  refine lv_aload_nN hx hb dX12_keep_0 rfl (lv_at hl 1 rfl) ?_
  have J_13 : ∀  (H : Heap) (locs : List Loc) (ls : Array Slot), va_P (gD g) cl0 ws H → va_D A ws → va_S A s.heap H locs → lv_has ls 3 [(2, .int x2)] → W p l e (headSpec (wt yX12_keep cX12_keep 3 (some .int)) ({ frames := 0, cells := 0, slots := 0, locals := 0 })).room s m ([.ref h0, .null, .int x2] : List Value).toArray below meth c H locs (0) (0) (MQ below (va_Qi (fun (r : Int32) (u9 : va_W) => True) (gQ1 g [(11, 11)] [(11, 3)] none A ws) A) ([.ref h0, .null, .int x2] : List Value).toArray s (0) (0) A) (F0 m 13 ls []) := by
    intro  H locs ls  hP hD hS hl
    refine lv_iload_n hx hb dX12_keep_13 rfl (lv_at hl 0 rfl) ?_
    refine W.widen (k := 0) (n := 0) (Nat.le_of_ble_eq_true rfl) (Nat.le_of_ble_eq_true rfl) ?_
    exact W.iret (v := x2) hx hb hr (fun t9 ht9 hW9 => ⟨⟨_, ws, rfl, trivial, ⟨gE.rf, gF.rf, hG, by rw [ht9]; exact hP, hD⟩⟩, hS.F ht9⟩) hS.2.2 dX12_keep_14
  refine lv_ifnullN (tgt := 13) hx hb dX12_keep_1 (by decide) ?_
  exact J_13  _ _ ls  hP hD hS (lv_sub hl [2] rfl)
