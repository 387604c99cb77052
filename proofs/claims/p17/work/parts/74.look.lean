set_option maxHeartbeats 1000000 in
set_option maxRecDepth 100000 in
theorem m_X2_lookAt_z (l : Launch) (g : Gm) (sz : Nat) (ws : va_W) (h0 : Nat) (x1 : Int32) (hG : Good g ws) (o_h0 : gC ws h0 2) : Met l yX2_lookAt (wt yX2_lookAt cX2_lookAt 3 none) ({ frames := 1, cells := 0, slots := 0, locals := 21 }) (va_Pc [.ref h0, .int x1] (st_G g sz ws)) (va_Qv (fun (u9 : va_W) => (gP u9 h0 (fun fs => ∀ c : Int32, fs[6]? = some (.int c) → 0 ≤ c.toInt ∧ c.toInt ≤ 65535)) ∧ (lkP ws u9 h0 x1 ∧ lkC ws u9 h0 x1)) (gQ1 g [(2, 1), (2, 2), (2, 3), (2, 4), (2, 5), (2, 6)] [] none (va_A ws sz) ws) (va_A ws sz)) (0) (0) (va_A ws sz) := by
  refine Met.ofW (cc := cX2_lookAt) (maxL := 3) (ret := none) (by decide) rfl ?_
  intro p e s m args below meth c s₁ B hml hv
  obtain ⟨rfl, hsz, hP, hK, hD0, hex, hE⟩ := hv
  have hx := B.exec
  have hb := B.bytes
  have hr := B.returns
  have hts0 := atoms_spec (ws := wt yX2_lookAt cX2_lookAt 3 none) B.pre
  have hts : ∀ w ∈ tb, w.before _ s = true := fun w h => hts0 w (List.mem_cons_of_mem _ h)
  have hown : s.vm.findClass RX2 = some m.cls := findClass_of_methodNamed B.named
  subst hsz
  have hD := hD0.self (sz := s.heap.size)
  generalize hAe : va_A ws s.heap.size = A at hD hE ⊢
  have hA : ∀ q : Nat, s.heap.size ≤ q → A q := fun q h => by rw [← hAe]; exact Or.inr h
  have hS : va_S A s.heap s.heap [] := va_S.rf
  have hl := lv_entry ([.ref h0, .int x1]) (n := 3) (Nat.le_of_ble_eq_true rfl)
  rw [lg_entry_eq]
  generalize (lg_sl ([.ref h0, .int x1]) ++ List.replicate (3 - (lg_sl ([.ref h0, .int x1])).length) Slot.unset).toArray = ls at hl ⊢
  have hl : lv_has ls 3 [(0, .ref h0), (1, .int x1)] := hl
  obtain ⟨k_1, fs9, hk_1⟩ := gC_of o_h0
  obtain ⟨r0_1, c1_1, c2_1, c3_1, c4_1, c5_1, c6_1, r7_1, n7_1, c8_1, c9_1, l10_1, c11_1, rfl, o_r0_1, a_r7_1, f2_1, f3_1, f4_1, -⟩ := (hG.1 _ _ _ _ hk_1).hX2 rfl
  obtain ⟨k_2, fs9, hk_2⟩ := gC_of o_r0_1
  obtain ⟨r0_2, n0_2, c1_2, c2_2, c3_2, r4_2, n4_2, c5_2, c6_2, c7_2, c8_2, r9_2, n9_2, r10_2, n10_2, r11_2, n11_2, c12_2, c13_2, c14_2, c15_2, c16_2, rfl, a_r0_2, f1_2, a_r4_2, f3_2, a_r9_2, f5_2, a_r10_2, f7_2, a_r11_2, f9_2, f10_2, f11_2, f12_2, f13_2, f14_2, -⟩ := (hG.1 _ _ _ _ hk_2).hX7 rfl
  have hkH := hk_1
  have hkD := hk_2
  refine lv_iload_n hx hb dX2_lookAt_0 rfl (lv_at hl 1 rfl) ?_
  refine lv_if_lt (tgt := 10) hx hb dX2_lookAt_1 (by decide) (fun c_3 => ?_) (fun c_3 => ?_)
  · refine lv_iconst (v := 0) hx hb dX2_lookAt_10 (by decide) ?_
    refine lv_goto (tgt := 23) hx hb dX2_lookAt_11 (by decide) ?_
    refine lv_istore_n (lv' := [(2, .int 0), (0, .ref h0), (1, .int x1)]) hx hb dX2_lookAt_23 rfl hl (by decide) rfl (fun ls hl => ?_)
    refine lv_aload_n hx hb dX2_lookAt_24 rfl (lv_at hl 1 rfl) ?_
    refine lv_aload_n hx hb dX2_lookAt_25 rfl (lv_at hl 1 rfl) ?_
    refine va_get (D := gD g) (ci := 2) (v := .ref r0_1) (C := RX2) (T := TX2) (N := 12) hx hb hts inX2 hown hK hP k_1 hk_1 rfl 0 (by decide) (hts _ kw_632) (fun _ h9 => h9) rfl dX2_lookAt_26 ?_
    refine lv_iload_n hx hb dX2_lookAt_29 rfl (lv_at hl 0 rfl) ?_
    have hFc := gfree hD hS hA
    refine va_calli (va_runV (As := [.int 0]) (rest := [.ref h0]) ⟨hx, hb, hml, hown, hts⟩ (m_X7_u2_x l g s.heap.size ws r0_1 (0) hG o_r0_1) (cwV 1 hts (gd_V kw_651 kw_1450 kw_1451 kw_710 kw_1449) rfl rfl rfl (by decide +kernel) ⟨Nat.le_of_ble_eq_true rfl, Nat.le_of_ble_eq_true rfl⟩) ⟨gblind, va_recv hK hP (ci := 6) (q0 := k_2) rfl hk_2, fun U hU hW9 => gmk hU hW9 hP hK hD hex hE hS hFc⟩ rfl rfl hl.1 rfl (lv_room (Nat.le_of_ble_eq_true rfl)) dX2_lookAt_30 ⟨Nat.le_of_ble_eq_true rfl, Nat.le_of_ble_eq_true rfl⟩) hS (fun q _ h => hFc q h) hFc (fun r_4 u9 t9 H1 locs ht9 hvm9 hw9 hB9 hz9 hk9 hS => ?_)
    have hP : va_P (gD g) cl0 ws H1 := by rw [← ht9]; exact hB9.1
    obtain ⟨hw9, xp_5⟩ := hw9
    have h_r_4 := hw9
    clear hB9 hz9 hk9 hvm9 ht9 hw9
    generalize H1 = H at hP hS ⊢
    have hV9 : okv ws 2 3 (.int r_4) := okv_i
    refine va_put (D := gD g) (ci := 2) (v := .int r_4) (ty := .int) (C := RX2) (T := TX2) (N := 12) hx hb hts inX2 tyX2 tyX2_ok nmX2 hown hK hP hD hS k_1 hk_1 rfl 3 (by decide) (hts _ kw_741) (fun _ h9 => h9) rfl (by decide +kernel) rfl rfl (Nat.le_of_ble_eq_true rfl) dX2_lookAt_33 (fun H locs hP hD hS => ?_)
    have hi_6 : invX2 g ws h0 [.ref r0_1, .int c1_1, .int c2_1, .int r_4, .int c4_1, .int c5_1, .int c6_1, .ref r7_1, .int c8_1, .int c9_1, .long l10_1, .int c11_1] := ⟨r0_1, (c1_1), (c2_1), (r_4), (c4_1), (c5_1), (c6_1), r7_1, (n7_1), (c8_1), (c9_1), (l10_1), (c11_1), rfl, o_r0_1, a_r7_1, f2_1, f3_1, f4_1, trivial⟩
    obtain ⟨ws_7, e_ws_7⟩ : ∃ z, z = ws.set k_1 (h0, .inr (2, [.ref r0_1, .int c1_1, .int c2_1, .int r_4, .int c4_1, .int c5_1, .int c6_1, .ref r7_1, .int c8_1, .int c9_1, .long l10_1, .int c11_1])) := ⟨_, rfl⟩
    have hP : va_P (gD g) cl0 ws_7 H := by rw [e_ws_7]; exact hP
    have hD : va_D A ws_7 := by rw [e_ws_7]; exact hD
    have E_8 : gE ws ws_7 := gE_set e_ws_7 hk_1 (cw_o (fi := 3) (v := .int r_4) rfl (by decide))
    have hG : Good g ws_7 := Good_set (fi := 3) (v := .int r_4) e_ws_7 hk_1 E_8 rfl hV9 hG (ivX2 hi_6)
    have Fr_9 : gF [(2, 3)] [] (some h0) ws ws_7 := gF_put (fi := 3) (v := .int r_4) e_ws_7 hk_1 rfl (by decide)
    have hkN := gset_self e_ws_7 hk_1
    have hk_2 := gset_ob e_ws_7 hk_1 hk_2 (by decide)
    have hk_1 := hkN
    have o_h0 := E_8.1 _ _ o_h0
    have o_r0_1 := E_8.1 _ _ o_r0_1
    have a_r7_1 := E_8.1 _ _ a_r7_1
    have a_r0_2 := E_8.1 _ _ a_r0_2
    have a_r4_2 := E_8.1 _ _ a_r4_2
    have a_r9_2 := E_8.1 _ _ a_r9_2
    have a_r10_2 := E_8.1 _ _ a_r10_2
    have a_r11_2 := E_8.1 _ _ a_r11_2
    refine lv_aload_n hx hb dX2_lookAt_36 rfl (lv_at hl 1 rfl) ?_
    refine lv_aload_n hx hb dX2_lookAt_37 rfl (lv_at hl 1 rfl) ?_
    refine va_get (D := gD g) (ci := 2) (v := .ref r0_1) (C := RX2) (T := TX2) (N := 12) hx hb hts inX2 hown hK hP k_1 hk_1 rfl 0 (by decide) (hts _ kw_632) (fun _ h9 => h9) rfl dX2_lookAt_38 ?_
    refine lv_iload_n hx hb dX2_lookAt_41 rfl (lv_at hl 0 rfl) ?_
    refine lv_iconst (v := 2) hx hb dX2_lookAt_42 (by decide) ?_
    refine lv_iadd hx hb dX2_lookAt_43 ?_
    refine lv_topi (fun z_10 ez_10 => ?_)
    obtain rfl : z_10 = 2 := ez_10.trans (by decide)
    have hFc := gfree hD hS hA
    refine va_calli (va_runV (As := [.int 2]) (rest := [.ref h0]) ⟨hx, hb, hml, hown, hts⟩ (m_X7_u2_x l g H.size ws_7 r0_1 (2) hG o_r0_1) (cwV 1 hts (gd_V kw_651 kw_1450 kw_1451 kw_710 kw_1449) rfl rfl rfl (by decide +kernel) ⟨Nat.le_of_ble_eq_true rfl, Nat.le_of_ble_eq_true rfl⟩) ⟨gblind, va_recv hK hP (ci := 6) (q0 := k_2) rfl hk_2, fun U hU hW9 => gmk hU hW9 hP hK hD hex hE hS hFc⟩ rfl rfl hl.1 rfl (lv_room (Nat.le_of_ble_eq_true rfl)) dX2_lookAt_44 ⟨Nat.le_of_ble_eq_true rfl, Nat.le_of_ble_eq_true rfl⟩) hS (fun q _ h => hFc q h) hFc (fun r_11 u9 t9 H1 locs ht9 hvm9 hw9 hB9 hz9 hk9 hS => ?_)
    have hP : va_P (gD g) cl0 ws_7 H1 := by rw [← ht9]; exact hB9.1
    obtain ⟨hw9, xp_12⟩ := hw9
    have h_r_11 := hw9
    clear hB9 hz9 hk9 hvm9 ht9 hw9
    generalize H1 = H at hP hS ⊢
    have hV9 : okv ws_7 2 4 (.int r_11) := okv_i
    refine va_put (D := gD g) (ci := 2) (v := .int r_11) (ty := .int) (C := RX2) (T := TX2) (N := 12) hx hb hts inX2 tyX2 tyX2_ok nmX2 hown hK hP hD hS k_1 hk_1 rfl 4 (by decide) (hts _ kw_742) (fun _ h9 => h9) rfl (by decide +kernel) rfl rfl (Nat.le_of_ble_eq_true rfl) dX2_lookAt_47 (fun H locs hP hD hS => ?_)
    have hi_13 : invX2 g ws_7 h0 [.ref r0_1, .int c1_1, .int c2_1, .int r_4, .int r_11, .int c5_1, .int c6_1, .ref r7_1, .int c8_1, .int c9_1, .long l10_1, .int c11_1] := ⟨r0_1, (c1_1), (c2_1), (r_4), (r_11), (c5_1), (c6_1), r7_1, (n7_1), (c8_1), (c9_1), (l10_1), (c11_1), rfl, o_r0_1, a_r7_1, f2_1, f3_1, f4_1, trivial⟩
    obtain ⟨ws_14, e_ws_14⟩ : ∃ z, z = ws_7.set k_1 (h0, .inr (2, [.ref r0_1, .int c1_1, .int c2_1, .int r_4, .int r_11, .int c5_1, .int c6_1, .ref r7_1, .int c8_1, .int c9_1, .long l10_1, .int c11_1])) := ⟨_, rfl⟩
    have hP : va_P (gD g) cl0 ws_14 H := by rw [e_ws_14]; exact hP
    have hD : va_D A ws_14 := by rw [e_ws_14]; exact hD
    have E_15 : gE ws_7 ws_14 := gE_set e_ws_14 hk_1 (cw_o (fi := 4) (v := .int r_11) rfl (by decide))
    have hG : Good g ws_14 := Good_set (fi := 4) (v := .int r_11) e_ws_14 hk_1 E_15 rfl hV9 hG (ivX2 hi_13)
    have Fr_16 : gF [(2, 4)] [] (some h0) ws_7 ws_14 := gF_put (fi := 4) (v := .int r_11) e_ws_14 hk_1 rfl (by decide)
    have hkN := gset_self e_ws_14 hk_1
    have hk_2 := gset_ob e_ws_14 hk_1 hk_2 (by decide)
    have hk_1 := hkN
    have o_h0 := E_15.1 _ _ o_h0
    have o_r0_1 := E_15.1 _ _ o_r0_1
    have a_r7_1 := E_15.1 _ _ a_r7_1
    have a_r0_2 := E_15.1 _ _ a_r0_2
    have a_r4_2 := E_15.1 _ _ a_r4_2
    have a_r9_2 := E_15.1 _ _ a_r9_2
    have a_r10_2 := E_15.1 _ _ a_r10_2
    have a_r11_2 := E_15.1 _ _ a_r11_2
    refine lv_aload_n hx hb dX2_lookAt_50 rfl (lv_at hl 1 rfl) ?_
    refine lv_aload_n hx hb dX2_lookAt_51 rfl (lv_at hl 1 rfl) ?_
    refine va_get (D := gD g) (ci := 2) (v := .ref r0_1) (C := RX2) (T := TX2) (N := 12) hx hb hts inX2 hown hK hP k_1 hk_1 rfl 0 (by decide) (hts _ kw_632) (fun _ h9 => h9) rfl dX2_lookAt_52 ?_
    refine lv_iload_n hx hb dX2_lookAt_55 rfl (lv_at hl 0 rfl) ?_
    refine lv_iconst (v := 4) hx hb dX2_lookAt_56 (by decide) ?_
    refine lv_iadd hx hb dX2_lookAt_57 ?_
    refine lv_topi (fun z_17 ez_17 => ?_)
    obtain rfl : z_17 = 4 := ez_17.trans (by decide)
    have hFc := gfree hD hS hA
    refine va_calli (va_runV (As := [.int 4]) (rest := [.ref h0]) ⟨hx, hb, hml, hown, hts⟩ (m_X7_s4_x l g H.size ws_14 r0_1 (4) hG o_r0_1) (cwV 1 hts (gd_V kw_634 kw_1429 kw_1430 kw_710 kw_1428) rfl rfl rfl (by decide +kernel) ⟨Nat.le_of_ble_eq_true rfl, Nat.le_of_ble_eq_true rfl⟩) ⟨gblind, va_recv hK hP (ci := 6) (q0 := k_2) rfl hk_2, fun U hU hW9 => gmk hU hW9 hP hK hD hex hE hS hFc⟩ rfl rfl hl.1 rfl (lv_room (Nat.le_of_ble_eq_true rfl)) dX2_lookAt_58 ⟨Nat.le_of_ble_eq_true rfl, Nat.le_of_ble_eq_true rfl⟩) hS (fun q _ h => hFc q h) hFc (fun r_18 u9 t9 H1 locs ht9 hvm9 hw9 hB9 hz9 hk9 hS => ?_)
    have hP : va_P (gD g) cl0 ws_14 H1 := by rw [← ht9]; exact hB9.1
    obtain ⟨hw9, xp_19⟩ := hw9
    clear hB9 hz9 hk9 hvm9 ht9 hw9
    generalize H1 = H at hP hS ⊢
    refine lv_sipush (v := 1200) hx hb dX2_lookAt_61 (by decide) ?_
    refine va_mmin hx hb (by rw [hml]; exact hl.1.symm) hown (hts _ kw_743) (hts _ kw_1750) (hts _ kw_1748) (hts _ kw_1749) (Nat.le_of_ble_eq_true rfl) (Nat.le_of_ble_eq_true rfl) (Nat.le_of_ble_eq_true rfl) (Nat.le_of_ble_eq_true rfl) dX2_lookAt_64 ?_
    refine lv_topi (fun z_20 ez_20 => ?_)
    have hV9 : okv ws_14 2 2 (.int z_20) := okv_i
    refine va_put (D := gD g) (ci := 2) (v := .int z_20) (ty := .int) (C := RX2) (T := TX2) (N := 12) hx hb hts inX2 tyX2 tyX2_ok nmX2 hown hK hP hD hS k_1 hk_1 rfl 2 (by decide) (hts _ kw_716) (fun _ h9 => h9) rfl (by decide +kernel) rfl rfl (Nat.le_of_ble_eq_true rfl) dX2_lookAt_67 (fun H locs hP hD hS => ?_)
    have f_21 : z_20.toInt ≤ 1200 := (by have e1200 : (1200 : Int32).toInt = 1200 := (by decide); have q_z_20 := i_min ez_20; have g_r_18 := i_rg r_18; have g_z_20 := i_rg z_20; omega)
    have hi_22 : invX2 g ws_14 h0 [.ref r0_1, .int c1_1, .int z_20, .int r_4, .int r_11, .int c5_1, .int c6_1, .ref r7_1, .int c8_1, .int c9_1, .long l10_1, .int c11_1] := ⟨r0_1, (c1_1), (z_20), (r_4), (r_11), (c5_1), (c6_1), r7_1, (n7_1), (c8_1), (c9_1), (l10_1), (c11_1), rfl, o_r0_1, a_r7_1, f2_1, f3_1, f_21, trivial⟩
    obtain ⟨ws_23, e_ws_23⟩ : ∃ z, z = ws_14.set k_1 (h0, .inr (2, [.ref r0_1, .int c1_1, .int z_20, .int r_4, .int r_11, .int c5_1, .int c6_1, .ref r7_1, .int c8_1, .int c9_1, .long l10_1, .int c11_1])) := ⟨_, rfl⟩
    have hP : va_P (gD g) cl0 ws_23 H := by rw [e_ws_23]; exact hP
    have hD : va_D A ws_23 := by rw [e_ws_23]; exact hD
    have E_24 : gE ws_14 ws_23 := gE_set e_ws_23 hk_1 (cw_o (fi := 2) (v := .int z_20) rfl (by decide))
    have hG : Good g ws_23 := Good_set (fi := 2) (v := .int z_20) e_ws_23 hk_1 E_24 rfl hV9 hG (ivX2 hi_22)
    have Fr_25 : gF [(2, 2)] [] (some h0) ws_14 ws_23 := gF_put (fi := 2) (v := .int z_20) e_ws_23 hk_1 rfl (by decide)
    have hkN := gset_self e_ws_23 hk_1
    have hk_2 := gset_ob e_ws_23 hk_1 hk_2 (by decide)
    have hk_1 := hkN
    have o_h0 := E_24.1 _ _ o_h0
    have o_r0_1 := E_24.1 _ _ o_r0_1
    have a_r7_1 := E_24.1 _ _ a_r7_1
    have a_r0_2 := E_24.1 _ _ a_r0_2
    have a_r4_2 := E_24.1 _ _ a_r4_2
    have a_r9_2 := E_24.1 _ _ a_r9_2
    have a_r10_2 := E_24.1 _ _ a_r10_2
    have a_r11_2 := E_24.1 _ _ a_r11_2
    refine lv_aload_n hx hb dX2_lookAt_70 rfl (lv_at hl 1 rfl) ?_
    refine lv_iload_n hx hb dX2_lookAt_71 rfl (lv_at hl 0 rfl) ?_
    refine lv_bipush (v := 8) hx hb dX2_lookAt_72 (by decide) ?_
    refine lv_iadd hx hb dX2_lookAt_74 ?_
    refine lv_topi (fun z_26 ez_26 => ?_)
    obtain rfl : z_26 = 8 := ez_26.trans (by decide)
    have hV9 : okv ws_23 2 1 (.int 8) := okv_i
    refine va_put (D := gD g) (ci := 2) (v := .int 8) (ty := .int) (C := RX2) (T := TX2) (N := 12) hx hb hts inX2 tyX2 tyX2_ok nmX2 hown hK hP hD hS k_1 hk_1 rfl 1 (by decide) (hts _ kw_718) (fun _ h9 => h9) rfl (by decide +kernel) rfl rfl (Nat.le_of_ble_eq_true rfl) dX2_lookAt_75 (fun H locs hP hD hS => ?_)
    have hi_27 : invX2 g ws_23 h0 [.ref r0_1, .int 8, .int z_20, .int r_4, .int r_11, .int c5_1, .int c6_1, .ref r7_1, .int c8_1, .int c9_1, .long l10_1, .int c11_1] := ⟨r0_1, (8), (z_20), (r_4), (r_11), (c5_1), (c6_1), r7_1, (n7_1), (c8_1), (c9_1), (l10_1), (c11_1), rfl, o_r0_1, a_r7_1, f2_1, f3_1, f_21, trivial⟩
    obtain ⟨ws_28, e_ws_28⟩ : ∃ z, z = ws_23.set k_1 (h0, .inr (2, [.ref r0_1, .int 8, .int z_20, .int r_4, .int r_11, .int c5_1, .int c6_1, .ref r7_1, .int c8_1, .int c9_1, .long l10_1, .int c11_1])) := ⟨_, rfl⟩
    have hP : va_P (gD g) cl0 ws_28 H := by rw [e_ws_28]; exact hP
    have hD : va_D A ws_28 := by rw [e_ws_28]; exact hD
    have E_29 : gE ws_23 ws_28 := gE_set e_ws_28 hk_1 (cw_o (fi := 1) (v := .int 8) rfl (by decide))
    have hG : Good g ws_28 := Good_set (fi := 1) (v := .int 8) e_ws_28 hk_1 E_29 rfl hV9 hG (ivX2 hi_27)
    have Fr_30 : gF [(2, 1)] [] (some h0) ws_23 ws_28 := gF_put (fi := 1) (v := .int 8) e_ws_28 hk_1 rfl (by decide)
    have hkN := gset_self e_ws_28 hk_1
    have hk_2 := gset_ob e_ws_28 hk_1 hk_2 (by decide)
    have hk_1 := hkN
    have o_h0 := E_29.1 _ _ o_h0
    have o_r0_1 := E_29.1 _ _ o_r0_1
    have a_r7_1 := E_29.1 _ _ a_r7_1
    have a_r0_2 := E_29.1 _ _ a_r0_2
    have a_r4_2 := E_29.1 _ _ a_r4_2
    have a_r9_2 := E_29.1 _ _ a_r9_2
    have a_r10_2 := E_29.1 _ _ a_r10_2
    have a_r11_2 := E_29.1 _ _ a_r11_2
    refine lv_aload_n hx hb dX2_lookAt_78 rfl (lv_at hl 1 rfl) ?_
    refine lv_aload_n hx hb dX2_lookAt_79 rfl (lv_at hl 1 rfl) ?_
    refine va_get (D := gD g) (ci := 2) (v := .int 8) (C := RX2) (T := TX2) (N := 12) hx hb hts inX2 hown hK hP k_1 hk_1 rfl 1 (by decide) (hts _ kw_718) (fun _ h9 => h9) rfl dX2_lookAt_80 ?_
    refine lv_aload_n hx hb dX2_lookAt_83 rfl (lv_at hl 1 rfl) ?_
    refine va_get (D := gD g) (ci := 2) (v := .int z_20) (C := RX2) (T := TX2) (N := 12) hx hb hts inX2 hown hK hP k_1 hk_1 rfl 2 (by decide) (hts _ kw_716) (fun _ h9 => h9) rfl dX2_lookAt_84 ?_
    refine lv_iadd hx hb dX2_lookAt_87 ?_
    refine lv_topi (fun z_31 ez_31 => ?_)
    refine lv_iconst (v := 2) hx hb dX2_lookAt_88 (by decide) ?_
    refine lv_iadd hx hb dX2_lookAt_89 ?_
    refine lv_topi (fun z_32 ez_32 => ?_)
    have hV9 : okv ws_28 2 5 (.int z_32) := okv_i
    refine va_put (D := gD g) (ci := 2) (v := .int z_32) (ty := .int) (C := RX2) (T := TX2) (N := 12) hx hb hts inX2 tyX2 tyX2_ok nmX2 hown hK hP hD hS k_1 hk_1 rfl 5 (by decide) (hts _ kw_744) (fun _ h9 => h9) rfl (by decide +kernel) rfl rfl (Nat.le_of_ble_eq_true rfl) dX2_lookAt_90 (fun H locs hP hD hS => ?_)
    have hi_33 : invX2 g ws_28 h0 [.ref r0_1, .int 8, .int z_20, .int r_4, .int r_11, .int z_32, .int c6_1, .ref r7_1, .int c8_1, .int c9_1, .long l10_1, .int c11_1] := ⟨r0_1, (8), (z_20), (r_4), (r_11), (z_32), (c6_1), r7_1, (n7_1), (c8_1), (c9_1), (l10_1), (c11_1), rfl, o_r0_1, a_r7_1, f2_1, f3_1, f_21, trivial⟩
    obtain ⟨ws_34, e_ws_34⟩ : ∃ z, z = ws_28.set k_1 (h0, .inr (2, [.ref r0_1, .int 8, .int z_20, .int r_4, .int r_11, .int z_32, .int c6_1, .ref r7_1, .int c8_1, .int c9_1, .long l10_1, .int c11_1])) := ⟨_, rfl⟩
    have hP : va_P (gD g) cl0 ws_34 H := by rw [e_ws_34]; exact hP
    have hD : va_D A ws_34 := by rw [e_ws_34]; exact hD
    have E_35 : gE ws_28 ws_34 := gE_set e_ws_34 hk_1 (cw_o (fi := 5) (v := .int z_32) rfl (by decide))
    have hG : Good g ws_34 := Good_set (fi := 5) (v := .int z_32) e_ws_34 hk_1 E_35 rfl hV9 hG (ivX2 hi_33)
    have Fr_36 : gF [(2, 5)] [] (some h0) ws_28 ws_34 := gF_put (fi := 5) (v := .int z_32) e_ws_34 hk_1 rfl (by decide)
    have hkN := gset_self e_ws_34 hk_1
    have hk_2 := gset_ob e_ws_34 hk_1 hk_2 (by decide)
    have hk_1 := hkN
    have o_h0 := E_35.1 _ _ o_h0
    have o_r0_1 := E_35.1 _ _ o_r0_1
    have a_r7_1 := E_35.1 _ _ a_r7_1
    have a_r0_2 := E_35.1 _ _ a_r0_2
    have a_r4_2 := E_35.1 _ _ a_r4_2
    have a_r9_2 := E_35.1 _ _ a_r9_2
    have a_r10_2 := E_35.1 _ _ a_r10_2
    have a_r11_2 := E_35.1 _ _ a_r11_2
    refine lv_aload_n hx hb dX2_lookAt_93 rfl (lv_at hl 1 rfl) ?_
    refine lv_aload_n hx hb dX2_lookAt_94 rfl (lv_at hl 1 rfl) ?_
    refine va_get (D := gD g) (ci := 2) (v := .ref r0_1) (C := RX2) (T := TX2) (N := 12) hx hb hts inX2 hown hK hP k_1 hk_1 rfl 0 (by decide) (hts _ kw_632) (fun _ h9 => h9) rfl dX2_lookAt_95 ?_
    refine lv_aload_n hx hb dX2_lookAt_98 rfl (lv_at hl 1 rfl) ?_
    refine va_get (D := gD g) (ci := 2) (v := .int 8) (C := RX2) (T := TX2) (N := 12) hx hb hts inX2 hown hK hP k_1 hk_1 rfl 1 (by decide) (hts _ kw_718) (fun _ h9 => h9) rfl dX2_lookAt_99 ?_
    refine lv_aload_n hx hb dX2_lookAt_102 rfl (lv_at hl 1 rfl) ?_
    refine va_get (D := gD g) (ci := 2) (v := .int z_20) (C := RX2) (T := TX2) (N := 12) hx hb hts inX2 hown hK hP k_1 hk_1 rfl 2 (by decide) (hts _ kw_716) (fun _ h9 => h9) rfl dX2_lookAt_103 ?_
    refine lv_iadd hx hb dX2_lookAt_106 ?_
    refine lv_topi (fun z_37 ez_37 => ?_)
    have hFc := gfree hD hS hA
    refine va_calli (va_runV (As := [.int z_37]) (rest := [.ref h0]) ⟨hx, hb, hml, hown, hts⟩ (m_X7_u2_x l g H.size ws_34 r0_1 (z_37) hG o_r0_1) (cwV 1 hts (gd_V kw_651 kw_1450 kw_1451 kw_710 kw_1449) rfl rfl rfl (by decide +kernel) ⟨Nat.le_of_ble_eq_true rfl, Nat.le_of_ble_eq_true rfl⟩) ⟨gblind, va_recv hK hP (ci := 6) (q0 := k_2) rfl hk_2, fun U hU hW9 => gmk hU hW9 hP hK hD hex hE hS hFc⟩ rfl rfl hl.1 rfl (lv_room (Nat.le_of_ble_eq_true rfl)) dX2_lookAt_107 ⟨Nat.le_of_ble_eq_true rfl, Nat.le_of_ble_eq_true rfl⟩) hS (fun q _ h => hFc q h) hFc (fun r_38 u9 t9 H1 locs ht9 hvm9 hw9 hB9 hz9 hk9 hS => ?_)
    have hP : va_P (gD g) cl0 ws_34 H1 := by rw [← ht9]; exact hB9.1
    obtain ⟨hw9, xp_39⟩ := hw9
    have h_r_38 := hw9
    clear hB9 hz9 hk9 hvm9 ht9 hw9
    generalize H1 = H at hP hS ⊢
    have hV9 : okv ws_34 2 6 (.int r_38) := okv_i
    refine va_put (D := gD g) (ci := 2) (v := .int r_38) (ty := .int) (C := RX2) (T := TX2) (N := 12) hx hb hts inX2 tyX2 tyX2_ok nmX2 hown hK hP hD hS k_1 hk_1 rfl 6 (by decide) (hts _ kw_745) (fun _ h9 => h9) rfl (by decide +kernel) rfl rfl (Nat.le_of_ble_eq_true rfl) dX2_lookAt_110 (fun H locs hP hD hS => ?_)
    have hi_40 : invX2 g ws_34 h0 [.ref r0_1, .int 8, .int z_20, .int r_4, .int r_11, .int z_32, .int r_38, .ref r7_1, .int c8_1, .int c9_1, .long l10_1, .int c11_1] := ⟨r0_1, (8), (z_20), (r_4), (r_11), (z_32), (r_38), r7_1, (n7_1), (c8_1), (c9_1), (l10_1), (c11_1), rfl, o_r0_1, a_r7_1, f2_1, f3_1, f_21, trivial⟩
    obtain ⟨ws_41, e_ws_41⟩ : ∃ z, z = ws_34.set k_1 (h0, .inr (2, [.ref r0_1, .int 8, .int z_20, .int r_4, .int r_11, .int z_32, .int r_38, .ref r7_1, .int c8_1, .int c9_1, .long l10_1, .int c11_1])) := ⟨_, rfl⟩
    have hP : va_P (gD g) cl0 ws_41 H := by rw [e_ws_41]; exact hP
    have hD : va_D A ws_41 := by rw [e_ws_41]; exact hD
    have E_42 : gE ws_34 ws_41 := gE_set e_ws_41 hk_1 (cw_o (fi := 6) (v := .int r_38) rfl (by decide))
    have hG : Good g ws_41 := Good_set (fi := 6) (v := .int r_38) e_ws_41 hk_1 E_42 rfl hV9 hG (ivX2 hi_40)
    have Fr_43 : gF [(2, 6)] [] (some h0) ws_34 ws_41 := gF_put (fi := 6) (v := .int r_38) e_ws_41 hk_1 rfl (by decide)
    have hkN := gset_self e_ws_41 hk_1
    have hk_2 := gset_ob e_ws_41 hk_1 hk_2 (by decide)
    have hk_1 := hkN
    have o_h0 := E_42.1 _ _ o_h0
    have o_r0_1 := E_42.1 _ _ o_r0_1
    have a_r7_1 := E_42.1 _ _ a_r7_1
    have a_r0_2 := E_42.1 _ _ a_r0_2
    have a_r4_2 := E_42.1 _ _ a_r4_2
    have a_r9_2 := E_42.1 _ _ a_r9_2
    have a_r10_2 := E_42.1 _ _ a_r10_2
    have a_r11_2 := E_42.1 _ _ a_r11_2
    refine W.widen (k := 0) (n := 0) (Nat.le_of_ble_eq_true rfl) (Nat.le_of_ble_eq_true rfl) ?_
    exact W.vret hx hb hr (fun t9 ht9 hW9 => ⟨⟨ws_41, rfl, ⟨(gP_of hD hk_1 (fun q90 e90 => by cases e90; exact (by have q_r_38 := h_r_38; have g_r_38 := i_rg r_38; omega))), ⟨(fun f9 e9 n9 c9 m9 q9 => by have hj : jSt c9 x1 = (0 : Int32) := (by unfold jSt; rw [if_pos (by have e0 : (0 : Int32).toInt = 0 := (by decide); have q_c_3 := i_lt c_3; have g_x1 := i_rg x1; omega)]); have hcd : jSt c9 x1 + 8 = (8 : Int32) := (by rw [hj]; decide); have hsz : jSz f9 e9 n9 (jSt c9 x1) = z_20 := (by have y9 := xp_19 _ _ _ (vw_mo ((gF.tr (gF.mo (F' := [(2, 3), (2, 4)]) (C' := []) (S' := none) Fr_9 (by decide) (fun _ h => h) (Or.inl rfl)) (gF.mo (F' := [(2, 3), (2, 4)]) (C' := []) (S' := none) Fr_16 (by decide) (fun _ h => h) (Or.inl rfl)))) (by decide) (by decide) (by decide) (vm_vw hD0 hkH rfl q9)); unfold jSz; rw [hj]; rw [show (0 : Int32) + 4 = 4 from by decide]; rw [← y9]; exact ez_20.symm); rw [hcd, hsz]; exact ⟨_, _, _, hk_1, rfl, rfl, rfl, vw_mo ((gF.tr (gF.mo (F' := [(2, 1), (2, 2), (2, 3), (2, 4), (2, 5), (2, 6)]) (C' := []) (S' := none) Fr_9 (by decide) (fun _ h => h) (Or.inl rfl)) (gF.tr (gF.mo (F' := [(2, 1), (2, 2), (2, 3), (2, 4), (2, 5), (2, 6)]) (C' := []) (S' := none) Fr_16 (by decide) (fun _ h => h) (Or.inl rfl)) (gF.tr (gF.mo (F' := [(2, 1), (2, 2), (2, 3), (2, 4), (2, 5), (2, 6)]) (C' := []) (S' := none) Fr_25 (by decide) (fun _ h => h) (Or.inl rfl)) (gF.tr (gF.mo (F' := [(2, 1), (2, 2), (2, 3), (2, 4), (2, 5), (2, 6)]) (C' := []) (S' := none) Fr_30 (by decide) (fun _ h => h) (Or.inl rfl)) (gF.tr (gF.mo (F' := [(2, 1), (2, 2), (2, 3), (2, 4), (2, 5), (2, 6)]) (C' := []) (S' := none) Fr_36 (by decide) (fun _ h => h) (Or.inl rfl)) (gF.mo (F' := [(2, 1), (2, 2), (2, 3), (2, 4), (2, 5), (2, 6)]) (C' := []) (S' := none) Fr_43 (by decide) (fun _ h => h) (Or.inl rfl)))))))) (by decide) (by decide) (by decide) (vm_vw hD0 hkH rfl q9)⟩), (fun f9 e9 n9 c9 m9 q9 => by have hj : jSt c9 x1 = (0 : Int32) := (by unfold jSt; rw [if_pos (by have e0 : (0 : Int32).toInt = 0 := (by decide); have q_c_3 := i_lt c_3; have g_x1 := i_rg x1; omega)]); have hcd : jSt c9 x1 + 8 = (8 : Int32) := (by rw [hj]; decide); have hsz : jSz f9 e9 n9 (jSt c9 x1) = z_20 := (by have y9 := xp_19 _ _ _ (vw_mo ((gF.tr (gF.mo (F' := [(2, 3), (2, 4)]) (C' := []) (S' := none) Fr_9 (by decide) (fun _ h => h) (Or.inl rfl)) (gF.mo (F' := [(2, 3), (2, 4)]) (C' := []) (S' := none) Fr_16 (by decide) (fun _ h => h) (Or.inl rfl)))) (by decide) (by decide) (by decide) (vm_vw hD0 hkH rfl q9)); unfold jSz; rw [hj]; rw [show (0 : Int32) + 4 = 4 from by decide]; rw [← y9]; exact ez_20.symm); have y8 := xp_39 _ _ _ (vw_mo ((gF.tr (gF.mo (F' := [(2, 1), (2, 2), (2, 3), (2, 4), (2, 5)]) (C' := []) (S' := none) Fr_9 (by decide) (fun _ h => h) (Or.inl rfl)) (gF.tr (gF.mo (F' := [(2, 1), (2, 2), (2, 3), (2, 4), (2, 5)]) (C' := []) (S' := none) Fr_16 (by decide) (fun _ h => h) (Or.inl rfl)) (gF.tr (gF.mo (F' := [(2, 1), (2, 2), (2, 3), (2, 4), (2, 5)]) (C' := []) (S' := none) Fr_25 (by decide) (fun _ h => h) (Or.inl rfl)) (gF.tr (gF.mo (F' := [(2, 1), (2, 2), (2, 3), (2, 4), (2, 5)]) (C' := []) (S' := none) Fr_30 (by decide) (fun _ h => h) (Or.inl rfl)) (gF.mo (F' := [(2, 1), (2, 2), (2, 3), (2, 4), (2, 5)]) (C' := []) (S' := none) Fr_36 (by decide) (fun _ h => h) (Or.inl rfl))))))) (by decide) (by decide) (by decide) (vm_vw hD0 hkH rfl q9)); exact ⟨_, _, hk_1, (by rw [hcd, hsz, ← ez_37, ← y8]; rfl)⟩)⟩⟩, ⟨(E_8.tr (E_15.tr (E_24.tr (E_29.tr (E_35.tr E_42))))), (gF.tr (gF.mo (F' := [(2, 1), (2, 2), (2, 3), (2, 4), (2, 5), (2, 6)]) (C' := []) (S' := none) Fr_9 (by decide) (fun _ h => h) (Or.inl rfl)) (gF.tr (gF.mo (F' := [(2, 1), (2, 2), (2, 3), (2, 4), (2, 5), (2, 6)]) (C' := []) (S' := none) Fr_16 (by decide) (fun _ h => h) (Or.inl rfl)) (gF.tr (gF.mo (F' := [(2, 1), (2, 2), (2, 3), (2, 4), (2, 5), (2, 6)]) (C' := []) (S' := none) Fr_25 (by decide) (fun _ h => h) (Or.inl rfl)) (gF.tr (gF.mo (F' := [(2, 1), (2, 2), (2, 3), (2, 4), (2, 5), (2, 6)]) (C' := []) (S' := none) Fr_30 (by decide) (fun _ h => h) (Or.inl rfl)) (gF.tr (gF.mo (F' := [(2, 1), (2, 2), (2, 3), (2, 4), (2, 5), (2, 6)]) (C' := []) (S' := none) Fr_36 (by decide) (fun _ h => h) (Or.inl rfl)) (gF.mo (F' := [(2, 1), (2, 2), (2, 3), (2, 4), (2, 5), (2, 6)]) (C' := []) (S' := none) Fr_43 (by decide) (fun _ h => h) (Or.inl rfl))))))), hG, by rw [ht9]; exact hP, hD⟩⟩, hS.F ht9⟩) hS.2.2 dX2_lookAt_113
  · refine lv_iload_n hx hb dX2_lookAt_4 rfl (lv_at hl 1 rfl) ?_
    refine lv_bipush (v := 24) hx hb dX2_lookAt_5 (by decide) ?_
    refine lv_icmp_lt (tgt := 14) hx hb dX2_lookAt_7 (by decide) (fun c_44 => ?_) (fun c_44 => ?_)
    · refine lv_aload_n hx hb dX2_lookAt_14 rfl (lv_at hl 0 rfl) ?_
      refine va_get (D := gD g) (ci := 2) (v := .ref r0_1) (C := RX2) (T := TX2) (N := 12) hx hb hts inX2 hown hK hP k_1 hk_1 rfl 0 (by decide) (hts _ kw_632) (fun _ h9 => h9) rfl dX2_lookAt_15 ?_
      refine va_get (D := gD g) (ci := 6) (v := .ref r10_2) (C := RX7) (T := TX7) (N := 17) hx hb hts inX7 hown hK hP k_2 hk_2 rfl 10 (by decide) (hts _ kw_731) (fun _ h9 => h9) rfl dX2_lookAt_18 ?_
      refine lv_iload_n hx hb dX2_lookAt_21 rfl (lv_at hl 1 rfl) ?_
      obtain ⟨k_45, f_45, hk_45⟩ := gI_of a_r10_2
      refine va_iald hx hb hK hP k_45 1 hk_45 rfl (i_in2 (by have e0 : (0 : Int32).toInt = 0 := (by decide); have e24 : (24 : Int32).toInt = 24 := (by decide); have q_f7_2 := f7_2; have q_f13_2 := f13_2; have q_c_3 := i_nlt c_3; have q_c_44 := i_lt c_44; have g_x1 := i_rg x1; omega)) dX2_lookAt_22 ?_
      refine lv_topi (fun z_46 ez_46 => ?_)
      have hkC := hk_45
      refine lv_istore_n (lv' := [(2, .int z_46), (0, .ref h0), (1, .int x1)]) hx hb dX2_lookAt_23 rfl hl (by decide) rfl (fun ls hl => ?_)
      refine lv_aload_n hx hb dX2_lookAt_24 rfl (lv_at hl 1 rfl) ?_
      refine lv_aload_n hx hb dX2_lookAt_25 rfl (lv_at hl 1 rfl) ?_
      refine va_get (D := gD g) (ci := 2) (v := .ref r0_1) (C := RX2) (T := TX2) (N := 12) hx hb hts inX2 hown hK hP k_1 hk_1 rfl 0 (by decide) (hts _ kw_632) (fun _ h9 => h9) rfl dX2_lookAt_26 ?_
      refine lv_iload_n hx hb dX2_lookAt_29 rfl (lv_at hl 0 rfl) ?_
      have hFc := gfree hD hS hA
      refine va_calli (va_runV (As := [.int z_46]) (rest := [.ref h0]) ⟨hx, hb, hml, hown, hts⟩ (m_X7_u2_x l g s.heap.size ws r0_1 (z_46) hG o_r0_1) (cwV 1 hts (gd_V kw_651 kw_1450 kw_1451 kw_710 kw_1449) rfl rfl rfl (by decide +kernel) ⟨Nat.le_of_ble_eq_true rfl, Nat.le_of_ble_eq_true rfl⟩) ⟨gblind, va_recv hK hP (ci := 6) (q0 := k_2) rfl hk_2, fun U hU hW9 => gmk hU hW9 hP hK hD hex hE hS hFc⟩ rfl rfl hl.1 rfl (lv_room (Nat.le_of_ble_eq_true rfl)) dX2_lookAt_30 ⟨Nat.le_of_ble_eq_true rfl, Nat.le_of_ble_eq_true rfl⟩) hS (fun q _ h => hFc q h) hFc (fun r_47 u9 t9 H1 locs ht9 hvm9 hw9 hB9 hz9 hk9 hS => ?_)
      have hP : va_P (gD g) cl0 ws H1 := by rw [← ht9]; exact hB9.1
      obtain ⟨hw9, xp_48⟩ := hw9
      have h_r_47 := hw9
      clear hB9 hz9 hk9 hvm9 ht9 hw9
      generalize H1 = H at hP hS ⊢
      have hV9 : okv ws 2 3 (.int r_47) := okv_i
      refine va_put (D := gD g) (ci := 2) (v := .int r_47) (ty := .int) (C := RX2) (T := TX2) (N := 12) hx hb hts inX2 tyX2 tyX2_ok nmX2 hown hK hP hD hS k_1 hk_1 rfl 3 (by decide) (hts _ kw_741) (fun _ h9 => h9) rfl (by decide +kernel) rfl rfl (Nat.le_of_ble_eq_true rfl) dX2_lookAt_33 (fun H locs hP hD hS => ?_)
      have hi_49 : invX2 g ws h0 [.ref r0_1, .int c1_1, .int c2_1, .int r_47, .int c4_1, .int c5_1, .int c6_1, .ref r7_1, .int c8_1, .int c9_1, .long l10_1, .int c11_1] := ⟨r0_1, (c1_1), (c2_1), (r_47), (c4_1), (c5_1), (c6_1), r7_1, (n7_1), (c8_1), (c9_1), (l10_1), (c11_1), rfl, o_r0_1, a_r7_1, f2_1, f3_1, f4_1, trivial⟩
      obtain ⟨ws_50, e_ws_50⟩ : ∃ z, z = ws.set k_1 (h0, .inr (2, [.ref r0_1, .int c1_1, .int c2_1, .int r_47, .int c4_1, .int c5_1, .int c6_1, .ref r7_1, .int c8_1, .int c9_1, .long l10_1, .int c11_1])) := ⟨_, rfl⟩
      have hP : va_P (gD g) cl0 ws_50 H := by rw [e_ws_50]; exact hP
      have hD : va_D A ws_50 := by rw [e_ws_50]; exact hD
      have E_51 : gE ws ws_50 := gE_set e_ws_50 hk_1 (cw_o (fi := 3) (v := .int r_47) rfl (by decide))
      have hG : Good g ws_50 := Good_set (fi := 3) (v := .int r_47) e_ws_50 hk_1 E_51 rfl hV9 hG (ivX2 hi_49)
      have Fr_52 : gF [(2, 3)] [] (some h0) ws ws_50 := gF_put (fi := 3) (v := .int r_47) e_ws_50 hk_1 rfl (by decide)
      have hkN := gset_self e_ws_50 hk_1
      have hk_2 := gset_ob e_ws_50 hk_1 hk_2 (by decide)
      have hk_45 := gset_obI e_ws_50 hk_1 hk_45
      have hk_1 := hkN
      have o_h0 := E_51.1 _ _ o_h0
      have o_r0_1 := E_51.1 _ _ o_r0_1
      have a_r7_1 := E_51.1 _ _ a_r7_1
      have a_r0_2 := E_51.1 _ _ a_r0_2
      have a_r4_2 := E_51.1 _ _ a_r4_2
      have a_r9_2 := E_51.1 _ _ a_r9_2
      have a_r10_2 := E_51.1 _ _ a_r10_2
      have a_r11_2 := E_51.1 _ _ a_r11_2
      refine lv_aload_n hx hb dX2_lookAt_36 rfl (lv_at hl 1 rfl) ?_
      refine lv_aload_n hx hb dX2_lookAt_37 rfl (lv_at hl 1 rfl) ?_
      refine va_get (D := gD g) (ci := 2) (v := .ref r0_1) (C := RX2) (T := TX2) (N := 12) hx hb hts inX2 hown hK hP k_1 hk_1 rfl 0 (by decide) (hts _ kw_632) (fun _ h9 => h9) rfl dX2_lookAt_38 ?_
      refine lv_iload_n hx hb dX2_lookAt_41 rfl (lv_at hl 0 rfl) ?_
      refine lv_iconst (v := 2) hx hb dX2_lookAt_42 (by decide) ?_
      refine lv_iadd hx hb dX2_lookAt_43 ?_
      refine lv_topi (fun z_53 ez_53 => ?_)
      have hFc := gfree hD hS hA
      refine va_calli (va_runV (As := [.int z_53]) (rest := [.ref h0]) ⟨hx, hb, hml, hown, hts⟩ (m_X7_u2_x l g H.size ws_50 r0_1 (z_53) hG o_r0_1) (cwV 1 hts (gd_V kw_651 kw_1450 kw_1451 kw_710 kw_1449) rfl rfl rfl (by decide +kernel) ⟨Nat.le_of_ble_eq_true rfl, Nat.le_of_ble_eq_true rfl⟩) ⟨gblind, va_recv hK hP (ci := 6) (q0 := k_2) rfl hk_2, fun U hU hW9 => gmk hU hW9 hP hK hD hex hE hS hFc⟩ rfl rfl hl.1 rfl (lv_room (Nat.le_of_ble_eq_true rfl)) dX2_lookAt_44 ⟨Nat.le_of_ble_eq_true rfl, Nat.le_of_ble_eq_true rfl⟩) hS (fun q _ h => hFc q h) hFc (fun r_54 u9 t9 H1 locs ht9 hvm9 hw9 hB9 hz9 hk9 hS => ?_)
      have hP : va_P (gD g) cl0 ws_50 H1 := by rw [← ht9]; exact hB9.1
      obtain ⟨hw9, xp_55⟩ := hw9
      have h_r_54 := hw9
      clear hB9 hz9 hk9 hvm9 ht9 hw9
      generalize H1 = H at hP hS ⊢
      have hV9 : okv ws_50 2 4 (.int r_54) := okv_i
      refine va_put (D := gD g) (ci := 2) (v := .int r_54) (ty := .int) (C := RX2) (T := TX2) (N := 12) hx hb hts inX2 tyX2 tyX2_ok nmX2 hown hK hP hD hS k_1 hk_1 rfl 4 (by decide) (hts _ kw_742) (fun _ h9 => h9) rfl (by decide +kernel) rfl rfl (Nat.le_of_ble_eq_true rfl) dX2_lookAt_47 (fun H locs hP hD hS => ?_)
      have hi_56 : invX2 g ws_50 h0 [.ref r0_1, .int c1_1, .int c2_1, .int r_47, .int r_54, .int c5_1, .int c6_1, .ref r7_1, .int c8_1, .int c9_1, .long l10_1, .int c11_1] := ⟨r0_1, (c1_1), (c2_1), (r_47), (r_54), (c5_1), (c6_1), r7_1, (n7_1), (c8_1), (c9_1), (l10_1), (c11_1), rfl, o_r0_1, a_r7_1, f2_1, f3_1, f4_1, trivial⟩
      obtain ⟨ws_57, e_ws_57⟩ : ∃ z, z = ws_50.set k_1 (h0, .inr (2, [.ref r0_1, .int c1_1, .int c2_1, .int r_47, .int r_54, .int c5_1, .int c6_1, .ref r7_1, .int c8_1, .int c9_1, .long l10_1, .int c11_1])) := ⟨_, rfl⟩
      have hP : va_P (gD g) cl0 ws_57 H := by rw [e_ws_57]; exact hP
      have hD : va_D A ws_57 := by rw [e_ws_57]; exact hD
      have E_58 : gE ws_50 ws_57 := gE_set e_ws_57 hk_1 (cw_o (fi := 4) (v := .int r_54) rfl (by decide))
      have hG : Good g ws_57 := Good_set (fi := 4) (v := .int r_54) e_ws_57 hk_1 E_58 rfl hV9 hG (ivX2 hi_56)
      have Fr_59 : gF [(2, 4)] [] (some h0) ws_50 ws_57 := gF_put (fi := 4) (v := .int r_54) e_ws_57 hk_1 rfl (by decide)
      have hkN := gset_self e_ws_57 hk_1
      have hk_2 := gset_ob e_ws_57 hk_1 hk_2 (by decide)
      have hk_45 := gset_obI e_ws_57 hk_1 hk_45
      have hk_1 := hkN
      have o_h0 := E_58.1 _ _ o_h0
      have o_r0_1 := E_58.1 _ _ o_r0_1
      have a_r7_1 := E_58.1 _ _ a_r7_1
      have a_r0_2 := E_58.1 _ _ a_r0_2
      have a_r4_2 := E_58.1 _ _ a_r4_2
      have a_r9_2 := E_58.1 _ _ a_r9_2
      have a_r10_2 := E_58.1 _ _ a_r10_2
      have a_r11_2 := E_58.1 _ _ a_r11_2
      refine lv_aload_n hx hb dX2_lookAt_50 rfl (lv_at hl 1 rfl) ?_
      refine lv_aload_n hx hb dX2_lookAt_51 rfl (lv_at hl 1 rfl) ?_
      refine va_get (D := gD g) (ci := 2) (v := .ref r0_1) (C := RX2) (T := TX2) (N := 12) hx hb hts inX2 hown hK hP k_1 hk_1 rfl 0 (by decide) (hts _ kw_632) (fun _ h9 => h9) rfl dX2_lookAt_52 ?_
      refine lv_iload_n hx hb dX2_lookAt_55 rfl (lv_at hl 0 rfl) ?_
      refine lv_iconst (v := 4) hx hb dX2_lookAt_56 (by decide) ?_
      refine lv_iadd hx hb dX2_lookAt_57 ?_
      refine lv_topi (fun z_60 ez_60 => ?_)
      have hFc := gfree hD hS hA
      refine va_calli (va_runV (As := [.int z_60]) (rest := [.ref h0]) ⟨hx, hb, hml, hown, hts⟩ (m_X7_s4_x l g H.size ws_57 r0_1 (z_60) hG o_r0_1) (cwV 1 hts (gd_V kw_634 kw_1429 kw_1430 kw_710 kw_1428) rfl rfl rfl (by decide +kernel) ⟨Nat.le_of_ble_eq_true rfl, Nat.le_of_ble_eq_true rfl⟩) ⟨gblind, va_recv hK hP (ci := 6) (q0 := k_2) rfl hk_2, fun U hU hW9 => gmk hU hW9 hP hK hD hex hE hS hFc⟩ rfl rfl hl.1 rfl (lv_room (Nat.le_of_ble_eq_true rfl)) dX2_lookAt_58 ⟨Nat.le_of_ble_eq_true rfl, Nat.le_of_ble_eq_true rfl⟩) hS (fun q _ h => hFc q h) hFc (fun r_61 u9 t9 H1 locs ht9 hvm9 hw9 hB9 hz9 hk9 hS => ?_)
      have hP : va_P (gD g) cl0 ws_57 H1 := by rw [← ht9]; exact hB9.1
      obtain ⟨hw9, xp_62⟩ := hw9
      clear hB9 hz9 hk9 hvm9 ht9 hw9
      generalize H1 = H at hP hS ⊢
      refine lv_sipush (v := 1200) hx hb dX2_lookAt_61 (by decide) ?_
      refine va_mmin hx hb (by rw [hml]; exact hl.1.symm) hown (hts _ kw_743) (hts _ kw_1750) (hts _ kw_1748) (hts _ kw_1749) (Nat.le_of_ble_eq_true rfl) (Nat.le_of_ble_eq_true rfl) (Nat.le_of_ble_eq_true rfl) (Nat.le_of_ble_eq_true rfl) dX2_lookAt_64 ?_
      refine lv_topi (fun z_63 ez_63 => ?_)
      have hV9 : okv ws_57 2 2 (.int z_63) := okv_i
      refine va_put (D := gD g) (ci := 2) (v := .int z_63) (ty := .int) (C := RX2) (T := TX2) (N := 12) hx hb hts inX2 tyX2 tyX2_ok nmX2 hown hK hP hD hS k_1 hk_1 rfl 2 (by decide) (hts _ kw_716) (fun _ h9 => h9) rfl (by decide +kernel) rfl rfl (Nat.le_of_ble_eq_true rfl) dX2_lookAt_67 (fun H locs hP hD hS => ?_)
      have f_64 : z_63.toInt ≤ 1200 := (by have e1200 : (1200 : Int32).toInt = 1200 := (by decide); have q_z_63 := i_min ez_63; have g_r_61 := i_rg r_61; have g_z_63 := i_rg z_63; omega)
      have hi_65 : invX2 g ws_57 h0 [.ref r0_1, .int c1_1, .int z_63, .int r_47, .int r_54, .int c5_1, .int c6_1, .ref r7_1, .int c8_1, .int c9_1, .long l10_1, .int c11_1] := ⟨r0_1, (c1_1), (z_63), (r_47), (r_54), (c5_1), (c6_1), r7_1, (n7_1), (c8_1), (c9_1), (l10_1), (c11_1), rfl, o_r0_1, a_r7_1, f2_1, f3_1, f_64, trivial⟩
      obtain ⟨ws_66, e_ws_66⟩ : ∃ z, z = ws_57.set k_1 (h0, .inr (2, [.ref r0_1, .int c1_1, .int z_63, .int r_47, .int r_54, .int c5_1, .int c6_1, .ref r7_1, .int c8_1, .int c9_1, .long l10_1, .int c11_1])) := ⟨_, rfl⟩
      have hP : va_P (gD g) cl0 ws_66 H := by rw [e_ws_66]; exact hP
      have hD : va_D A ws_66 := by rw [e_ws_66]; exact hD
      have E_67 : gE ws_57 ws_66 := gE_set e_ws_66 hk_1 (cw_o (fi := 2) (v := .int z_63) rfl (by decide))
      have hG : Good g ws_66 := Good_set (fi := 2) (v := .int z_63) e_ws_66 hk_1 E_67 rfl hV9 hG (ivX2 hi_65)
      have Fr_68 : gF [(2, 2)] [] (some h0) ws_57 ws_66 := gF_put (fi := 2) (v := .int z_63) e_ws_66 hk_1 rfl (by decide)
      have hkN := gset_self e_ws_66 hk_1
      have hk_2 := gset_ob e_ws_66 hk_1 hk_2 (by decide)
      have hk_45 := gset_obI e_ws_66 hk_1 hk_45
      have hk_1 := hkN
      have o_h0 := E_67.1 _ _ o_h0
      have o_r0_1 := E_67.1 _ _ o_r0_1
      have a_r7_1 := E_67.1 _ _ a_r7_1
      have a_r0_2 := E_67.1 _ _ a_r0_2
      have a_r4_2 := E_67.1 _ _ a_r4_2
      have a_r9_2 := E_67.1 _ _ a_r9_2
      have a_r10_2 := E_67.1 _ _ a_r10_2
      have a_r11_2 := E_67.1 _ _ a_r11_2
      refine lv_aload_n hx hb dX2_lookAt_70 rfl (lv_at hl 1 rfl) ?_
      refine lv_iload_n hx hb dX2_lookAt_71 rfl (lv_at hl 0 rfl) ?_
      refine lv_bipush (v := 8) hx hb dX2_lookAt_72 (by decide) ?_
      refine lv_iadd hx hb dX2_lookAt_74 ?_
      refine lv_topi (fun z_69 ez_69 => ?_)
      have hV9 : okv ws_66 2 1 (.int z_69) := okv_i
      refine va_put (D := gD g) (ci := 2) (v := .int z_69) (ty := .int) (C := RX2) (T := TX2) (N := 12) hx hb hts inX2 tyX2 tyX2_ok nmX2 hown hK hP hD hS k_1 hk_1 rfl 1 (by decide) (hts _ kw_718) (fun _ h9 => h9) rfl (by decide +kernel) rfl rfl (Nat.le_of_ble_eq_true rfl) dX2_lookAt_75 (fun H locs hP hD hS => ?_)
      have hi_70 : invX2 g ws_66 h0 [.ref r0_1, .int z_69, .int z_63, .int r_47, .int r_54, .int c5_1, .int c6_1, .ref r7_1, .int c8_1, .int c9_1, .long l10_1, .int c11_1] := ⟨r0_1, (z_69), (z_63), (r_47), (r_54), (c5_1), (c6_1), r7_1, (n7_1), (c8_1), (c9_1), (l10_1), (c11_1), rfl, o_r0_1, a_r7_1, f2_1, f3_1, f_64, trivial⟩
      obtain ⟨ws_71, e_ws_71⟩ : ∃ z, z = ws_66.set k_1 (h0, .inr (2, [.ref r0_1, .int z_69, .int z_63, .int r_47, .int r_54, .int c5_1, .int c6_1, .ref r7_1, .int c8_1, .int c9_1, .long l10_1, .int c11_1])) := ⟨_, rfl⟩
      have hP : va_P (gD g) cl0 ws_71 H := by rw [e_ws_71]; exact hP
      have hD : va_D A ws_71 := by rw [e_ws_71]; exact hD
      have E_72 : gE ws_66 ws_71 := gE_set e_ws_71 hk_1 (cw_o (fi := 1) (v := .int z_69) rfl (by decide))
      have hG : Good g ws_71 := Good_set (fi := 1) (v := .int z_69) e_ws_71 hk_1 E_72 rfl hV9 hG (ivX2 hi_70)
      have Fr_73 : gF [(2, 1)] [] (some h0) ws_66 ws_71 := gF_put (fi := 1) (v := .int z_69) e_ws_71 hk_1 rfl (by decide)
      have hkN := gset_self e_ws_71 hk_1
      have hk_2 := gset_ob e_ws_71 hk_1 hk_2 (by decide)
      have hk_45 := gset_obI e_ws_71 hk_1 hk_45
      have hk_1 := hkN
      have o_h0 := E_72.1 _ _ o_h0
      have o_r0_1 := E_72.1 _ _ o_r0_1
      have a_r7_1 := E_72.1 _ _ a_r7_1
      have a_r0_2 := E_72.1 _ _ a_r0_2
      have a_r4_2 := E_72.1 _ _ a_r4_2
      have a_r9_2 := E_72.1 _ _ a_r9_2
      have a_r10_2 := E_72.1 _ _ a_r10_2
      have a_r11_2 := E_72.1 _ _ a_r11_2
      refine lv_aload_n hx hb dX2_lookAt_78 rfl (lv_at hl 1 rfl) ?_
      refine lv_aload_n hx hb dX2_lookAt_79 rfl (lv_at hl 1 rfl) ?_
      refine va_get (D := gD g) (ci := 2) (v := .int z_69) (C := RX2) (T := TX2) (N := 12) hx hb hts inX2 hown hK hP k_1 hk_1 rfl 1 (by decide) (hts _ kw_718) (fun _ h9 => h9) rfl dX2_lookAt_80 ?_
      refine lv_aload_n hx hb dX2_lookAt_83 rfl (lv_at hl 1 rfl) ?_
      refine va_get (D := gD g) (ci := 2) (v := .int z_63) (C := RX2) (T := TX2) (N := 12) hx hb hts inX2 hown hK hP k_1 hk_1 rfl 2 (by decide) (hts _ kw_716) (fun _ h9 => h9) rfl dX2_lookAt_84 ?_
      refine lv_iadd hx hb dX2_lookAt_87 ?_
      refine lv_topi (fun z_74 ez_74 => ?_)
      refine lv_iconst (v := 2) hx hb dX2_lookAt_88 (by decide) ?_
      refine lv_iadd hx hb dX2_lookAt_89 ?_
      refine lv_topi (fun z_75 ez_75 => ?_)
      have hV9 : okv ws_71 2 5 (.int z_75) := okv_i
      refine va_put (D := gD g) (ci := 2) (v := .int z_75) (ty := .int) (C := RX2) (T := TX2) (N := 12) hx hb hts inX2 tyX2 tyX2_ok nmX2 hown hK hP hD hS k_1 hk_1 rfl 5 (by decide) (hts _ kw_744) (fun _ h9 => h9) rfl (by decide +kernel) rfl rfl (Nat.le_of_ble_eq_true rfl) dX2_lookAt_90 (fun H locs hP hD hS => ?_)
      have hi_76 : invX2 g ws_71 h0 [.ref r0_1, .int z_69, .int z_63, .int r_47, .int r_54, .int z_75, .int c6_1, .ref r7_1, .int c8_1, .int c9_1, .long l10_1, .int c11_1] := ⟨r0_1, (z_69), (z_63), (r_47), (r_54), (z_75), (c6_1), r7_1, (n7_1), (c8_1), (c9_1), (l10_1), (c11_1), rfl, o_r0_1, a_r7_1, f2_1, f3_1, f_64, trivial⟩
      obtain ⟨ws_77, e_ws_77⟩ : ∃ z, z = ws_71.set k_1 (h0, .inr (2, [.ref r0_1, .int z_69, .int z_63, .int r_47, .int r_54, .int z_75, .int c6_1, .ref r7_1, .int c8_1, .int c9_1, .long l10_1, .int c11_1])) := ⟨_, rfl⟩
      have hP : va_P (gD g) cl0 ws_77 H := by rw [e_ws_77]; exact hP
      have hD : va_D A ws_77 := by rw [e_ws_77]; exact hD
      have E_78 : gE ws_71 ws_77 := gE_set e_ws_77 hk_1 (cw_o (fi := 5) (v := .int z_75) rfl (by decide))
      have hG : Good g ws_77 := Good_set (fi := 5) (v := .int z_75) e_ws_77 hk_1 E_78 rfl hV9 hG (ivX2 hi_76)
      have Fr_79 : gF [(2, 5)] [] (some h0) ws_71 ws_77 := gF_put (fi := 5) (v := .int z_75) e_ws_77 hk_1 rfl (by decide)
      have hkN := gset_self e_ws_77 hk_1
      have hk_2 := gset_ob e_ws_77 hk_1 hk_2 (by decide)
      have hk_45 := gset_obI e_ws_77 hk_1 hk_45
      have hk_1 := hkN
      have o_h0 := E_78.1 _ _ o_h0
      have o_r0_1 := E_78.1 _ _ o_r0_1
      have a_r7_1 := E_78.1 _ _ a_r7_1
      have a_r0_2 := E_78.1 _ _ a_r0_2
      have a_r4_2 := E_78.1 _ _ a_r4_2
      have a_r9_2 := E_78.1 _ _ a_r9_2
      have a_r10_2 := E_78.1 _ _ a_r10_2
      have a_r11_2 := E_78.1 _ _ a_r11_2
      refine lv_aload_n hx hb dX2_lookAt_93 rfl (lv_at hl 1 rfl) ?_
      refine lv_aload_n hx hb dX2_lookAt_94 rfl (lv_at hl 1 rfl) ?_
      refine va_get (D := gD g) (ci := 2) (v := .ref r0_1) (C := RX2) (T := TX2) (N := 12) hx hb hts inX2 hown hK hP k_1 hk_1 rfl 0 (by decide) (hts _ kw_632) (fun _ h9 => h9) rfl dX2_lookAt_95 ?_
      refine lv_aload_n hx hb dX2_lookAt_98 rfl (lv_at hl 1 rfl) ?_
      refine va_get (D := gD g) (ci := 2) (v := .int z_69) (C := RX2) (T := TX2) (N := 12) hx hb hts inX2 hown hK hP k_1 hk_1 rfl 1 (by decide) (hts _ kw_718) (fun _ h9 => h9) rfl dX2_lookAt_99 ?_
      refine lv_aload_n hx hb dX2_lookAt_102 rfl (lv_at hl 1 rfl) ?_
      refine va_get (D := gD g) (ci := 2) (v := .int z_63) (C := RX2) (T := TX2) (N := 12) hx hb hts inX2 hown hK hP k_1 hk_1 rfl 2 (by decide) (hts _ kw_716) (fun _ h9 => h9) rfl dX2_lookAt_103 ?_
      refine lv_iadd hx hb dX2_lookAt_106 ?_
      refine lv_topi (fun z_80 ez_80 => ?_)
      have hFc := gfree hD hS hA
      refine va_calli (va_runV (As := [.int z_80]) (rest := [.ref h0]) ⟨hx, hb, hml, hown, hts⟩ (m_X7_u2_x l g H.size ws_77 r0_1 (z_80) hG o_r0_1) (cwV 1 hts (gd_V kw_651 kw_1450 kw_1451 kw_710 kw_1449) rfl rfl rfl (by decide +kernel) ⟨Nat.le_of_ble_eq_true rfl, Nat.le_of_ble_eq_true rfl⟩) ⟨gblind, va_recv hK hP (ci := 6) (q0 := k_2) rfl hk_2, fun U hU hW9 => gmk hU hW9 hP hK hD hex hE hS hFc⟩ rfl rfl hl.1 rfl (lv_room (Nat.le_of_ble_eq_true rfl)) dX2_lookAt_107 ⟨Nat.le_of_ble_eq_true rfl, Nat.le_of_ble_eq_true rfl⟩) hS (fun q _ h => hFc q h) hFc (fun r_81 u9 t9 H1 locs ht9 hvm9 hw9 hB9 hz9 hk9 hS => ?_)
      have hP : va_P (gD g) cl0 ws_77 H1 := by rw [← ht9]; exact hB9.1
      obtain ⟨hw9, xp_82⟩ := hw9
      have h_r_81 := hw9
      clear hB9 hz9 hk9 hvm9 ht9 hw9
      generalize H1 = H at hP hS ⊢
      have hV9 : okv ws_77 2 6 (.int r_81) := okv_i
      refine va_put (D := gD g) (ci := 2) (v := .int r_81) (ty := .int) (C := RX2) (T := TX2) (N := 12) hx hb hts inX2 tyX2 tyX2_ok nmX2 hown hK hP hD hS k_1 hk_1 rfl 6 (by decide) (hts _ kw_745) (fun _ h9 => h9) rfl (by decide +kernel) rfl rfl (Nat.le_of_ble_eq_true rfl) dX2_lookAt_110 (fun H locs hP hD hS => ?_)
      have hi_83 : invX2 g ws_77 h0 [.ref r0_1, .int z_69, .int z_63, .int r_47, .int r_54, .int z_75, .int r_81, .ref r7_1, .int c8_1, .int c9_1, .long l10_1, .int c11_1] := ⟨r0_1, (z_69), (z_63), (r_47), (r_54), (z_75), (r_81), r7_1, (n7_1), (c8_1), (c9_1), (l10_1), (c11_1), rfl, o_r0_1, a_r7_1, f2_1, f3_1, f_64, trivial⟩
      obtain ⟨ws_84, e_ws_84⟩ : ∃ z, z = ws_77.set k_1 (h0, .inr (2, [.ref r0_1, .int z_69, .int z_63, .int r_47, .int r_54, .int z_75, .int r_81, .ref r7_1, .int c8_1, .int c9_1, .long l10_1, .int c11_1])) := ⟨_, rfl⟩
      have hP : va_P (gD g) cl0 ws_84 H := by rw [e_ws_84]; exact hP
      have hD : va_D A ws_84 := by rw [e_ws_84]; exact hD
      have E_85 : gE ws_77 ws_84 := gE_set e_ws_84 hk_1 (cw_o (fi := 6) (v := .int r_81) rfl (by decide))
      have hG : Good g ws_84 := Good_set (fi := 6) (v := .int r_81) e_ws_84 hk_1 E_85 rfl hV9 hG (ivX2 hi_83)
      have Fr_86 : gF [(2, 6)] [] (some h0) ws_77 ws_84 := gF_put (fi := 6) (v := .int r_81) e_ws_84 hk_1 rfl (by decide)
      have hkN := gset_self e_ws_84 hk_1
      have hk_2 := gset_ob e_ws_84 hk_1 hk_2 (by decide)
      have hk_45 := gset_obI e_ws_84 hk_1 hk_45
      have hk_1 := hkN
      have o_h0 := E_85.1 _ _ o_h0
      have o_r0_1 := E_85.1 _ _ o_r0_1
      have a_r7_1 := E_85.1 _ _ a_r7_1
      have a_r0_2 := E_85.1 _ _ a_r0_2
      have a_r4_2 := E_85.1 _ _ a_r4_2
      have a_r9_2 := E_85.1 _ _ a_r9_2
      have a_r10_2 := E_85.1 _ _ a_r10_2
      have a_r11_2 := E_85.1 _ _ a_r11_2
      refine W.widen (k := 0) (n := 0) (Nat.le_of_ble_eq_true rfl) (Nat.le_of_ble_eq_true rfl) ?_
      exact W.vret hx hb hr (fun t9 ht9 hW9 => ⟨⟨ws_84, rfl, ⟨(gP_of hD hk_1 (fun q90 e90 => by cases e90; exact (by have q_r_81 := h_r_81; have g_r_81 := i_rg r_81; omega))), ⟨(fun f9 e9 n9 c9 m9 q9 => by have hj : jSt c9 x1 = z_46 := (by unfold jSt; rw [if_neg (by have e0 : (0 : Int32).toInt = 0 := (by decide); have e24 : (24 : Int32).toInt = 24 := (by decide); have q_c_3 := i_nlt c_3; have q_c_44 := i_lt c_44; have g_x1 := i_rg x1; omega), vm_fc hD0 hkH rfl hkD rfl hkC q9, ← ez_46]); have hcd : jSt c9 x1 + 8 = z_69 := (by rw [hj]; exact ez_69.symm); have hsz : jSz f9 e9 n9 (jSt c9 x1) = z_63 := (by have y9 := xp_62 _ _ _ (vw_mo ((gF.tr (gF.mo (F' := [(2, 3), (2, 4)]) (C' := []) (S' := none) Fr_52 (by decide) (fun _ h => h) (Or.inl rfl)) (gF.mo (F' := [(2, 3), (2, 4)]) (C' := []) (S' := none) Fr_59 (by decide) (fun _ h => h) (Or.inl rfl)))) (by decide) (by decide) (by decide) (vm_vw hD0 hkH rfl q9)); unfold jSz; rw [hj]; rw [← ez_60]; rw [← y9]; exact ez_63.symm); rw [hcd, hsz]; exact ⟨_, _, _, hk_1, rfl, rfl, rfl, vw_mo ((gF.tr (gF.mo (F' := [(2, 1), (2, 2), (2, 3), (2, 4), (2, 5), (2, 6)]) (C' := []) (S' := none) Fr_52 (by decide) (fun _ h => h) (Or.inl rfl)) (gF.tr (gF.mo (F' := [(2, 1), (2, 2), (2, 3), (2, 4), (2, 5), (2, 6)]) (C' := []) (S' := none) Fr_59 (by decide) (fun _ h => h) (Or.inl rfl)) (gF.tr (gF.mo (F' := [(2, 1), (2, 2), (2, 3), (2, 4), (2, 5), (2, 6)]) (C' := []) (S' := none) Fr_68 (by decide) (fun _ h => h) (Or.inl rfl)) (gF.tr (gF.mo (F' := [(2, 1), (2, 2), (2, 3), (2, 4), (2, 5), (2, 6)]) (C' := []) (S' := none) Fr_73 (by decide) (fun _ h => h) (Or.inl rfl)) (gF.tr (gF.mo (F' := [(2, 1), (2, 2), (2, 3), (2, 4), (2, 5), (2, 6)]) (C' := []) (S' := none) Fr_79 (by decide) (fun _ h => h) (Or.inl rfl)) (gF.mo (F' := [(2, 1), (2, 2), (2, 3), (2, 4), (2, 5), (2, 6)]) (C' := []) (S' := none) Fr_86 (by decide) (fun _ h => h) (Or.inl rfl)))))))) (by decide) (by decide) (by decide) (vm_vw hD0 hkH rfl q9)⟩), (fun f9 e9 n9 c9 m9 q9 => by have hj : jSt c9 x1 = z_46 := (by unfold jSt; rw [if_neg (by have e0 : (0 : Int32).toInt = 0 := (by decide); have e24 : (24 : Int32).toInt = 24 := (by decide); have q_c_3 := i_nlt c_3; have q_c_44 := i_lt c_44; have g_x1 := i_rg x1; omega), vm_fc hD0 hkH rfl hkD rfl hkC q9, ← ez_46]); have hcd : jSt c9 x1 + 8 = z_69 := (by rw [hj]; exact ez_69.symm); have hsz : jSz f9 e9 n9 (jSt c9 x1) = z_63 := (by have y9 := xp_62 _ _ _ (vw_mo ((gF.tr (gF.mo (F' := [(2, 3), (2, 4)]) (C' := []) (S' := none) Fr_52 (by decide) (fun _ h => h) (Or.inl rfl)) (gF.mo (F' := [(2, 3), (2, 4)]) (C' := []) (S' := none) Fr_59 (by decide) (fun _ h => h) (Or.inl rfl)))) (by decide) (by decide) (by decide) (vm_vw hD0 hkH rfl q9)); unfold jSz; rw [hj]; rw [← ez_60]; rw [← y9]; exact ez_63.symm); have y8 := xp_82 _ _ _ (vw_mo ((gF.tr (gF.mo (F' := [(2, 1), (2, 2), (2, 3), (2, 4), (2, 5)]) (C' := []) (S' := none) Fr_52 (by decide) (fun _ h => h) (Or.inl rfl)) (gF.tr (gF.mo (F' := [(2, 1), (2, 2), (2, 3), (2, 4), (2, 5)]) (C' := []) (S' := none) Fr_59 (by decide) (fun _ h => h) (Or.inl rfl)) (gF.tr (gF.mo (F' := [(2, 1), (2, 2), (2, 3), (2, 4), (2, 5)]) (C' := []) (S' := none) Fr_68 (by decide) (fun _ h => h) (Or.inl rfl)) (gF.tr (gF.mo (F' := [(2, 1), (2, 2), (2, 3), (2, 4), (2, 5)]) (C' := []) (S' := none) Fr_73 (by decide) (fun _ h => h) (Or.inl rfl)) (gF.mo (F' := [(2, 1), (2, 2), (2, 3), (2, 4), (2, 5)]) (C' := []) (S' := none) Fr_79 (by decide) (fun _ h => h) (Or.inl rfl))))))) (by decide) (by decide) (by decide) (vm_vw hD0 hkH rfl q9)); exact ⟨_, _, hk_1, (by rw [hcd, hsz, ← ez_80, ← y8]; rfl)⟩)⟩⟩, ⟨(E_51.tr (E_58.tr (E_67.tr (E_72.tr (E_78.tr E_85))))), (gF.tr (gF.mo (F' := [(2, 1), (2, 2), (2, 3), (2, 4), (2, 5), (2, 6)]) (C' := []) (S' := none) Fr_52 (by decide) (fun _ h => h) (Or.inl rfl)) (gF.tr (gF.mo (F' := [(2, 1), (2, 2), (2, 3), (2, 4), (2, 5), (2, 6)]) (C' := []) (S' := none) Fr_59 (by decide) (fun _ h => h) (Or.inl rfl)) (gF.tr (gF.mo (F' := [(2, 1), (2, 2), (2, 3), (2, 4), (2, 5), (2, 6)]) (C' := []) (S' := none) Fr_68 (by decide) (fun _ h => h) (Or.inl rfl)) (gF.tr (gF.mo (F' := [(2, 1), (2, 2), (2, 3), (2, 4), (2, 5), (2, 6)]) (C' := []) (S' := none) Fr_73 (by decide) (fun _ h => h) (Or.inl rfl)) (gF.tr (gF.mo (F' := [(2, 1), (2, 2), (2, 3), (2, 4), (2, 5), (2, 6)]) (C' := []) (S' := none) Fr_79 (by decide) (fun _ h => h) (Or.inl rfl)) (gF.mo (F' := [(2, 1), (2, 2), (2, 3), (2, 4), (2, 5), (2, 6)]) (C' := []) (S' := none) Fr_86 (by decide) (fun _ h => h) (Or.inl rfl))))))), hG, by rw [ht9]; exact hP, hD⟩⟩, hS.F ht9⟩) hS.2.2 dX2_lookAt_113
    · refine lv_iconst (v := 0) hx hb dX2_lookAt_10 (by decide) ?_
      refine lv_goto (tgt := 23) hx hb dX2_lookAt_11 (by decide) ?_
      refine lv_istore_n (lv' := [(2, .int 0), (0, .ref h0), (1, .int x1)]) hx hb dX2_lookAt_23 rfl hl (by decide) rfl (fun ls hl => ?_)
      refine lv_aload_n hx hb dX2_lookAt_24 rfl (lv_at hl 1 rfl) ?_
      refine lv_aload_n hx hb dX2_lookAt_25 rfl (lv_at hl 1 rfl) ?_
      refine va_get (D := gD g) (ci := 2) (v := .ref r0_1) (C := RX2) (T := TX2) (N := 12) hx hb hts inX2 hown hK hP k_1 hk_1 rfl 0 (by decide) (hts _ kw_632) (fun _ h9 => h9) rfl dX2_lookAt_26 ?_
      refine lv_iload_n hx hb dX2_lookAt_29 rfl (lv_at hl 0 rfl) ?_
      have hFc := gfree hD hS hA
      refine va_calli (va_runV (As := [.int 0]) (rest := [.ref h0]) ⟨hx, hb, hml, hown, hts⟩ (m_X7_u2_x l g s.heap.size ws r0_1 (0) hG o_r0_1) (cwV 1 hts (gd_V kw_651 kw_1450 kw_1451 kw_710 kw_1449) rfl rfl rfl (by decide +kernel) ⟨Nat.le_of_ble_eq_true rfl, Nat.le_of_ble_eq_true rfl⟩) ⟨gblind, va_recv hK hP (ci := 6) (q0 := k_2) rfl hk_2, fun U hU hW9 => gmk hU hW9 hP hK hD hex hE hS hFc⟩ rfl rfl hl.1 rfl (lv_room (Nat.le_of_ble_eq_true rfl)) dX2_lookAt_30 ⟨Nat.le_of_ble_eq_true rfl, Nat.le_of_ble_eq_true rfl⟩) hS (fun q _ h => hFc q h) hFc (fun r_87 u9 t9 H1 locs ht9 hvm9 hw9 hB9 hz9 hk9 hS => ?_)
      have hP : va_P (gD g) cl0 ws H1 := by rw [← ht9]; exact hB9.1
      obtain ⟨hw9, xp_88⟩ := hw9
      have h_r_87 := hw9
      clear hB9 hz9 hk9 hvm9 ht9 hw9
      generalize H1 = H at hP hS ⊢
      have hV9 : okv ws 2 3 (.int r_87) := okv_i
      refine va_put (D := gD g) (ci := 2) (v := .int r_87) (ty := .int) (C := RX2) (T := TX2) (N := 12) hx hb hts inX2 tyX2 tyX2_ok nmX2 hown hK hP hD hS k_1 hk_1 rfl 3 (by decide) (hts _ kw_741) (fun _ h9 => h9) rfl (by decide +kernel) rfl rfl (Nat.le_of_ble_eq_true rfl) dX2_lookAt_33 (fun H locs hP hD hS => ?_)
      have hi_89 : invX2 g ws h0 [.ref r0_1, .int c1_1, .int c2_1, .int r_87, .int c4_1, .int c5_1, .int c6_1, .ref r7_1, .int c8_1, .int c9_1, .long l10_1, .int c11_1] := ⟨r0_1, (c1_1), (c2_1), (r_87), (c4_1), (c5_1), (c6_1), r7_1, (n7_1), (c8_1), (c9_1), (l10_1), (c11_1), rfl, o_r0_1, a_r7_1, f2_1, f3_1, f4_1, trivial⟩
      obtain ⟨ws_90, e_ws_90⟩ : ∃ z, z = ws.set k_1 (h0, .inr (2, [.ref r0_1, .int c1_1, .int c2_1, .int r_87, .int c4_1, .int c5_1, .int c6_1, .ref r7_1, .int c8_1, .int c9_1, .long l10_1, .int c11_1])) := ⟨_, rfl⟩
      have hP : va_P (gD g) cl0 ws_90 H := by rw [e_ws_90]; exact hP
      have hD : va_D A ws_90 := by rw [e_ws_90]; exact hD
      have E_91 : gE ws ws_90 := gE_set e_ws_90 hk_1 (cw_o (fi := 3) (v := .int r_87) rfl (by decide))
      have hG : Good g ws_90 := Good_set (fi := 3) (v := .int r_87) e_ws_90 hk_1 E_91 rfl hV9 hG (ivX2 hi_89)
      have Fr_92 : gF [(2, 3)] [] (some h0) ws ws_90 := gF_put (fi := 3) (v := .int r_87) e_ws_90 hk_1 rfl (by decide)
      have hkN := gset_self e_ws_90 hk_1
      have hk_2 := gset_ob e_ws_90 hk_1 hk_2 (by decide)
      have hk_1 := hkN
      have o_h0 := E_91.1 _ _ o_h0
      have o_r0_1 := E_91.1 _ _ o_r0_1
      have a_r7_1 := E_91.1 _ _ a_r7_1
      have a_r0_2 := E_91.1 _ _ a_r0_2
      have a_r4_2 := E_91.1 _ _ a_r4_2
      have a_r9_2 := E_91.1 _ _ a_r9_2
      have a_r10_2 := E_91.1 _ _ a_r10_2
      have a_r11_2 := E_91.1 _ _ a_r11_2
      refine lv_aload_n hx hb dX2_lookAt_36 rfl (lv_at hl 1 rfl) ?_
      refine lv_aload_n hx hb dX2_lookAt_37 rfl (lv_at hl 1 rfl) ?_
      refine va_get (D := gD g) (ci := 2) (v := .ref r0_1) (C := RX2) (T := TX2) (N := 12) hx hb hts inX2 hown hK hP k_1 hk_1 rfl 0 (by decide) (hts _ kw_632) (fun _ h9 => h9) rfl dX2_lookAt_38 ?_
      refine lv_iload_n hx hb dX2_lookAt_41 rfl (lv_at hl 0 rfl) ?_
      refine lv_iconst (v := 2) hx hb dX2_lookAt_42 (by decide) ?_
      refine lv_iadd hx hb dX2_lookAt_43 ?_
      refine lv_topi (fun z_93 ez_93 => ?_)
      obtain rfl : z_93 = 2 := ez_93.trans (by decide)
      have hFc := gfree hD hS hA
      refine va_calli (va_runV (As := [.int 2]) (rest := [.ref h0]) ⟨hx, hb, hml, hown, hts⟩ (m_X7_u2_x l g H.size ws_90 r0_1 (2) hG o_r0_1) (cwV 1 hts (gd_V kw_651 kw_1450 kw_1451 kw_710 kw_1449) rfl rfl rfl (by decide +kernel) ⟨Nat.le_of_ble_eq_true rfl, Nat.le_of_ble_eq_true rfl⟩) ⟨gblind, va_recv hK hP (ci := 6) (q0 := k_2) rfl hk_2, fun U hU hW9 => gmk hU hW9 hP hK hD hex hE hS hFc⟩ rfl rfl hl.1 rfl (lv_room (Nat.le_of_ble_eq_true rfl)) dX2_lookAt_44 ⟨Nat.le_of_ble_eq_true rfl, Nat.le_of_ble_eq_true rfl⟩) hS (fun q _ h => hFc q h) hFc (fun r_94 u9 t9 H1 locs ht9 hvm9 hw9 hB9 hz9 hk9 hS => ?_)
      have hP : va_P (gD g) cl0 ws_90 H1 := by rw [← ht9]; exact hB9.1
      obtain ⟨hw9, xp_95⟩ := hw9
      have h_r_94 := hw9
      clear hB9 hz9 hk9 hvm9 ht9 hw9
      generalize H1 = H at hP hS ⊢
      have hV9 : okv ws_90 2 4 (.int r_94) := okv_i
      refine va_put (D := gD g) (ci := 2) (v := .int r_94) (ty := .int) (C := RX2) (T := TX2) (N := 12) hx hb hts inX2 tyX2 tyX2_ok nmX2 hown hK hP hD hS k_1 hk_1 rfl 4 (by decide) (hts _ kw_742) (fun _ h9 => h9) rfl (by decide +kernel) rfl rfl (Nat.le_of_ble_eq_true rfl) dX2_lookAt_47 (fun H locs hP hD hS => ?_)
      have hi_96 : invX2 g ws_90 h0 [.ref r0_1, .int c1_1, .int c2_1, .int r_87, .int r_94, .int c5_1, .int c6_1, .ref r7_1, .int c8_1, .int c9_1, .long l10_1, .int c11_1] := ⟨r0_1, (c1_1), (c2_1), (r_87), (r_94), (c5_1), (c6_1), r7_1, (n7_1), (c8_1), (c9_1), (l10_1), (c11_1), rfl, o_r0_1, a_r7_1, f2_1, f3_1, f4_1, trivial⟩
      obtain ⟨ws_97, e_ws_97⟩ : ∃ z, z = ws_90.set k_1 (h0, .inr (2, [.ref r0_1, .int c1_1, .int c2_1, .int r_87, .int r_94, .int c5_1, .int c6_1, .ref r7_1, .int c8_1, .int c9_1, .long l10_1, .int c11_1])) := ⟨_, rfl⟩
      have hP : va_P (gD g) cl0 ws_97 H := by rw [e_ws_97]; exact hP
      have hD : va_D A ws_97 := by rw [e_ws_97]; exact hD
      have E_98 : gE ws_90 ws_97 := gE_set e_ws_97 hk_1 (cw_o (fi := 4) (v := .int r_94) rfl (by decide))
      have hG : Good g ws_97 := Good_set (fi := 4) (v := .int r_94) e_ws_97 hk_1 E_98 rfl hV9 hG (ivX2 hi_96)
      have Fr_99 : gF [(2, 4)] [] (some h0) ws_90 ws_97 := gF_put (fi := 4) (v := .int r_94) e_ws_97 hk_1 rfl (by decide)
      have hkN := gset_self e_ws_97 hk_1
      have hk_2 := gset_ob e_ws_97 hk_1 hk_2 (by decide)
      have hk_1 := hkN
      have o_h0 := E_98.1 _ _ o_h0
      have o_r0_1 := E_98.1 _ _ o_r0_1
      have a_r7_1 := E_98.1 _ _ a_r7_1
      have a_r0_2 := E_98.1 _ _ a_r0_2
      have a_r4_2 := E_98.1 _ _ a_r4_2
      have a_r9_2 := E_98.1 _ _ a_r9_2
      have a_r10_2 := E_98.1 _ _ a_r10_2
      have a_r11_2 := E_98.1 _ _ a_r11_2
      refine lv_aload_n hx hb dX2_lookAt_50 rfl (lv_at hl 1 rfl) ?_
      refine lv_aload_n hx hb dX2_lookAt_51 rfl (lv_at hl 1 rfl) ?_
      refine va_get (D := gD g) (ci := 2) (v := .ref r0_1) (C := RX2) (T := TX2) (N := 12) hx hb hts inX2 hown hK hP k_1 hk_1 rfl 0 (by decide) (hts _ kw_632) (fun _ h9 => h9) rfl dX2_lookAt_52 ?_
      refine lv_iload_n hx hb dX2_lookAt_55 rfl (lv_at hl 0 rfl) ?_
      refine lv_iconst (v := 4) hx hb dX2_lookAt_56 (by decide) ?_
      refine lv_iadd hx hb dX2_lookAt_57 ?_
      refine lv_topi (fun z_100 ez_100 => ?_)
      obtain rfl : z_100 = 4 := ez_100.trans (by decide)
      have hFc := gfree hD hS hA
      refine va_calli (va_runV (As := [.int 4]) (rest := [.ref h0]) ⟨hx, hb, hml, hown, hts⟩ (m_X7_s4_x l g H.size ws_97 r0_1 (4) hG o_r0_1) (cwV 1 hts (gd_V kw_634 kw_1429 kw_1430 kw_710 kw_1428) rfl rfl rfl (by decide +kernel) ⟨Nat.le_of_ble_eq_true rfl, Nat.le_of_ble_eq_true rfl⟩) ⟨gblind, va_recv hK hP (ci := 6) (q0 := k_2) rfl hk_2, fun U hU hW9 => gmk hU hW9 hP hK hD hex hE hS hFc⟩ rfl rfl hl.1 rfl (lv_room (Nat.le_of_ble_eq_true rfl)) dX2_lookAt_58 ⟨Nat.le_of_ble_eq_true rfl, Nat.le_of_ble_eq_true rfl⟩) hS (fun q _ h => hFc q h) hFc (fun r_101 u9 t9 H1 locs ht9 hvm9 hw9 hB9 hz9 hk9 hS => ?_)
      have hP : va_P (gD g) cl0 ws_97 H1 := by rw [← ht9]; exact hB9.1
      obtain ⟨hw9, xp_102⟩ := hw9
      clear hB9 hz9 hk9 hvm9 ht9 hw9
      generalize H1 = H at hP hS ⊢
      refine lv_sipush (v := 1200) hx hb dX2_lookAt_61 (by decide) ?_
      refine va_mmin hx hb (by rw [hml]; exact hl.1.symm) hown (hts _ kw_743) (hts _ kw_1750) (hts _ kw_1748) (hts _ kw_1749) (Nat.le_of_ble_eq_true rfl) (Nat.le_of_ble_eq_true rfl) (Nat.le_of_ble_eq_true rfl) (Nat.le_of_ble_eq_true rfl) dX2_lookAt_64 ?_
      refine lv_topi (fun z_103 ez_103 => ?_)
      have hV9 : okv ws_97 2 2 (.int z_103) := okv_i
      refine va_put (D := gD g) (ci := 2) (v := .int z_103) (ty := .int) (C := RX2) (T := TX2) (N := 12) hx hb hts inX2 tyX2 tyX2_ok nmX2 hown hK hP hD hS k_1 hk_1 rfl 2 (by decide) (hts _ kw_716) (fun _ h9 => h9) rfl (by decide +kernel) rfl rfl (Nat.le_of_ble_eq_true rfl) dX2_lookAt_67 (fun H locs hP hD hS => ?_)
      have f_104 : z_103.toInt ≤ 1200 := (by have e1200 : (1200 : Int32).toInt = 1200 := (by decide); have q_z_103 := i_min ez_103; have g_r_101 := i_rg r_101; have g_z_103 := i_rg z_103; omega)
      have hi_105 : invX2 g ws_97 h0 [.ref r0_1, .int c1_1, .int z_103, .int r_87, .int r_94, .int c5_1, .int c6_1, .ref r7_1, .int c8_1, .int c9_1, .long l10_1, .int c11_1] := ⟨r0_1, (c1_1), (z_103), (r_87), (r_94), (c5_1), (c6_1), r7_1, (n7_1), (c8_1), (c9_1), (l10_1), (c11_1), rfl, o_r0_1, a_r7_1, f2_1, f3_1, f_104, trivial⟩
      obtain ⟨ws_106, e_ws_106⟩ : ∃ z, z = ws_97.set k_1 (h0, .inr (2, [.ref r0_1, .int c1_1, .int z_103, .int r_87, .int r_94, .int c5_1, .int c6_1, .ref r7_1, .int c8_1, .int c9_1, .long l10_1, .int c11_1])) := ⟨_, rfl⟩
      have hP : va_P (gD g) cl0 ws_106 H := by rw [e_ws_106]; exact hP
      have hD : va_D A ws_106 := by rw [e_ws_106]; exact hD
      have E_107 : gE ws_97 ws_106 := gE_set e_ws_106 hk_1 (cw_o (fi := 2) (v := .int z_103) rfl (by decide))
      have hG : Good g ws_106 := Good_set (fi := 2) (v := .int z_103) e_ws_106 hk_1 E_107 rfl hV9 hG (ivX2 hi_105)
      have Fr_108 : gF [(2, 2)] [] (some h0) ws_97 ws_106 := gF_put (fi := 2) (v := .int z_103) e_ws_106 hk_1 rfl (by decide)
      have hkN := gset_self e_ws_106 hk_1
      have hk_2 := gset_ob e_ws_106 hk_1 hk_2 (by decide)
      have hk_1 := hkN
      have o_h0 := E_107.1 _ _ o_h0
      have o_r0_1 := E_107.1 _ _ o_r0_1
      have a_r7_1 := E_107.1 _ _ a_r7_1
      have a_r0_2 := E_107.1 _ _ a_r0_2
      have a_r4_2 := E_107.1 _ _ a_r4_2
      have a_r9_2 := E_107.1 _ _ a_r9_2
      have a_r10_2 := E_107.1 _ _ a_r10_2
      have a_r11_2 := E_107.1 _ _ a_r11_2
      refine lv_aload_n hx hb dX2_lookAt_70 rfl (lv_at hl 1 rfl) ?_
      refine lv_iload_n hx hb dX2_lookAt_71 rfl (lv_at hl 0 rfl) ?_
      refine lv_bipush (v := 8) hx hb dX2_lookAt_72 (by decide) ?_
      refine lv_iadd hx hb dX2_lookAt_74 ?_
      refine lv_topi (fun z_109 ez_109 => ?_)
      obtain rfl : z_109 = 8 := ez_109.trans (by decide)
      have hV9 : okv ws_106 2 1 (.int 8) := okv_i
      refine va_put (D := gD g) (ci := 2) (v := .int 8) (ty := .int) (C := RX2) (T := TX2) (N := 12) hx hb hts inX2 tyX2 tyX2_ok nmX2 hown hK hP hD hS k_1 hk_1 rfl 1 (by decide) (hts _ kw_718) (fun _ h9 => h9) rfl (by decide +kernel) rfl rfl (Nat.le_of_ble_eq_true rfl) dX2_lookAt_75 (fun H locs hP hD hS => ?_)
      have hi_110 : invX2 g ws_106 h0 [.ref r0_1, .int 8, .int z_103, .int r_87, .int r_94, .int c5_1, .int c6_1, .ref r7_1, .int c8_1, .int c9_1, .long l10_1, .int c11_1] := ⟨r0_1, (8), (z_103), (r_87), (r_94), (c5_1), (c6_1), r7_1, (n7_1), (c8_1), (c9_1), (l10_1), (c11_1), rfl, o_r0_1, a_r7_1, f2_1, f3_1, f_104, trivial⟩
      obtain ⟨ws_111, e_ws_111⟩ : ∃ z, z = ws_106.set k_1 (h0, .inr (2, [.ref r0_1, .int 8, .int z_103, .int r_87, .int r_94, .int c5_1, .int c6_1, .ref r7_1, .int c8_1, .int c9_1, .long l10_1, .int c11_1])) := ⟨_, rfl⟩
      have hP : va_P (gD g) cl0 ws_111 H := by rw [e_ws_111]; exact hP
      have hD : va_D A ws_111 := by rw [e_ws_111]; exact hD
      have E_112 : gE ws_106 ws_111 := gE_set e_ws_111 hk_1 (cw_o (fi := 1) (v := .int 8) rfl (by decide))
      have hG : Good g ws_111 := Good_set (fi := 1) (v := .int 8) e_ws_111 hk_1 E_112 rfl hV9 hG (ivX2 hi_110)
      have Fr_113 : gF [(2, 1)] [] (some h0) ws_106 ws_111 := gF_put (fi := 1) (v := .int 8) e_ws_111 hk_1 rfl (by decide)
      have hkN := gset_self e_ws_111 hk_1
      have hk_2 := gset_ob e_ws_111 hk_1 hk_2 (by decide)
      have hk_1 := hkN
      have o_h0 := E_112.1 _ _ o_h0
      have o_r0_1 := E_112.1 _ _ o_r0_1
      have a_r7_1 := E_112.1 _ _ a_r7_1
      have a_r0_2 := E_112.1 _ _ a_r0_2
      have a_r4_2 := E_112.1 _ _ a_r4_2
      have a_r9_2 := E_112.1 _ _ a_r9_2
      have a_r10_2 := E_112.1 _ _ a_r10_2
      have a_r11_2 := E_112.1 _ _ a_r11_2
      refine lv_aload_n hx hb dX2_lookAt_78 rfl (lv_at hl 1 rfl) ?_
      refine lv_aload_n hx hb dX2_lookAt_79 rfl (lv_at hl 1 rfl) ?_
      refine va_get (D := gD g) (ci := 2) (v := .int 8) (C := RX2) (T := TX2) (N := 12) hx hb hts inX2 hown hK hP k_1 hk_1 rfl 1 (by decide) (hts _ kw_718) (fun _ h9 => h9) rfl dX2_lookAt_80 ?_
      refine lv_aload_n hx hb dX2_lookAt_83 rfl (lv_at hl 1 rfl) ?_
      refine va_get (D := gD g) (ci := 2) (v := .int z_103) (C := RX2) (T := TX2) (N := 12) hx hb hts inX2 hown hK hP k_1 hk_1 rfl 2 (by decide) (hts _ kw_716) (fun _ h9 => h9) rfl dX2_lookAt_84 ?_
      refine lv_iadd hx hb dX2_lookAt_87 ?_
      refine lv_topi (fun z_114 ez_114 => ?_)
      refine lv_iconst (v := 2) hx hb dX2_lookAt_88 (by decide) ?_
      refine lv_iadd hx hb dX2_lookAt_89 ?_
      refine lv_topi (fun z_115 ez_115 => ?_)
      have hV9 : okv ws_111 2 5 (.int z_115) := okv_i
      refine va_put (D := gD g) (ci := 2) (v := .int z_115) (ty := .int) (C := RX2) (T := TX2) (N := 12) hx hb hts inX2 tyX2 tyX2_ok nmX2 hown hK hP hD hS k_1 hk_1 rfl 5 (by decide) (hts _ kw_744) (fun _ h9 => h9) rfl (by decide +kernel) rfl rfl (Nat.le_of_ble_eq_true rfl) dX2_lookAt_90 (fun H locs hP hD hS => ?_)
      have hi_116 : invX2 g ws_111 h0 [.ref r0_1, .int 8, .int z_103, .int r_87, .int r_94, .int z_115, .int c6_1, .ref r7_1, .int c8_1, .int c9_1, .long l10_1, .int c11_1] := ⟨r0_1, (8), (z_103), (r_87), (r_94), (z_115), (c6_1), r7_1, (n7_1), (c8_1), (c9_1), (l10_1), (c11_1), rfl, o_r0_1, a_r7_1, f2_1, f3_1, f_104, trivial⟩
      obtain ⟨ws_117, e_ws_117⟩ : ∃ z, z = ws_111.set k_1 (h0, .inr (2, [.ref r0_1, .int 8, .int z_103, .int r_87, .int r_94, .int z_115, .int c6_1, .ref r7_1, .int c8_1, .int c9_1, .long l10_1, .int c11_1])) := ⟨_, rfl⟩
      have hP : va_P (gD g) cl0 ws_117 H := by rw [e_ws_117]; exact hP
      have hD : va_D A ws_117 := by rw [e_ws_117]; exact hD
      have E_118 : gE ws_111 ws_117 := gE_set e_ws_117 hk_1 (cw_o (fi := 5) (v := .int z_115) rfl (by decide))
      have hG : Good g ws_117 := Good_set (fi := 5) (v := .int z_115) e_ws_117 hk_1 E_118 rfl hV9 hG (ivX2 hi_116)
      have Fr_119 : gF [(2, 5)] [] (some h0) ws_111 ws_117 := gF_put (fi := 5) (v := .int z_115) e_ws_117 hk_1 rfl (by decide)
      have hkN := gset_self e_ws_117 hk_1
      have hk_2 := gset_ob e_ws_117 hk_1 hk_2 (by decide)
      have hk_1 := hkN
      have o_h0 := E_118.1 _ _ o_h0
      have o_r0_1 := E_118.1 _ _ o_r0_1
      have a_r7_1 := E_118.1 _ _ a_r7_1
      have a_r0_2 := E_118.1 _ _ a_r0_2
      have a_r4_2 := E_118.1 _ _ a_r4_2
      have a_r9_2 := E_118.1 _ _ a_r9_2
      have a_r10_2 := E_118.1 _ _ a_r10_2
      have a_r11_2 := E_118.1 _ _ a_r11_2
      refine lv_aload_n hx hb dX2_lookAt_93 rfl (lv_at hl 1 rfl) ?_
      refine lv_aload_n hx hb dX2_lookAt_94 rfl (lv_at hl 1 rfl) ?_
      refine va_get (D := gD g) (ci := 2) (v := .ref r0_1) (C := RX2) (T := TX2) (N := 12) hx hb hts inX2 hown hK hP k_1 hk_1 rfl 0 (by decide) (hts _ kw_632) (fun _ h9 => h9) rfl dX2_lookAt_95 ?_
      refine lv_aload_n hx hb dX2_lookAt_98 rfl (lv_at hl 1 rfl) ?_
      refine va_get (D := gD g) (ci := 2) (v := .int 8) (C := RX2) (T := TX2) (N := 12) hx hb hts inX2 hown hK hP k_1 hk_1 rfl 1 (by decide) (hts _ kw_718) (fun _ h9 => h9) rfl dX2_lookAt_99 ?_
      refine lv_aload_n hx hb dX2_lookAt_102 rfl (lv_at hl 1 rfl) ?_
      refine va_get (D := gD g) (ci := 2) (v := .int z_103) (C := RX2) (T := TX2) (N := 12) hx hb hts inX2 hown hK hP k_1 hk_1 rfl 2 (by decide) (hts _ kw_716) (fun _ h9 => h9) rfl dX2_lookAt_103 ?_
      refine lv_iadd hx hb dX2_lookAt_106 ?_
      refine lv_topi (fun z_120 ez_120 => ?_)
      have hFc := gfree hD hS hA
      refine va_calli (va_runV (As := [.int z_120]) (rest := [.ref h0]) ⟨hx, hb, hml, hown, hts⟩ (m_X7_u2_x l g H.size ws_117 r0_1 (z_120) hG o_r0_1) (cwV 1 hts (gd_V kw_651 kw_1450 kw_1451 kw_710 kw_1449) rfl rfl rfl (by decide +kernel) ⟨Nat.le_of_ble_eq_true rfl, Nat.le_of_ble_eq_true rfl⟩) ⟨gblind, va_recv hK hP (ci := 6) (q0 := k_2) rfl hk_2, fun U hU hW9 => gmk hU hW9 hP hK hD hex hE hS hFc⟩ rfl rfl hl.1 rfl (lv_room (Nat.le_of_ble_eq_true rfl)) dX2_lookAt_107 ⟨Nat.le_of_ble_eq_true rfl, Nat.le_of_ble_eq_true rfl⟩) hS (fun q _ h => hFc q h) hFc (fun r_121 u9 t9 H1 locs ht9 hvm9 hw9 hB9 hz9 hk9 hS => ?_)
      have hP : va_P (gD g) cl0 ws_117 H1 := by rw [← ht9]; exact hB9.1
      obtain ⟨hw9, xp_122⟩ := hw9
      have h_r_121 := hw9
      clear hB9 hz9 hk9 hvm9 ht9 hw9
      generalize H1 = H at hP hS ⊢
      have hV9 : okv ws_117 2 6 (.int r_121) := okv_i
      refine va_put (D := gD g) (ci := 2) (v := .int r_121) (ty := .int) (C := RX2) (T := TX2) (N := 12) hx hb hts inX2 tyX2 tyX2_ok nmX2 hown hK hP hD hS k_1 hk_1 rfl 6 (by decide) (hts _ kw_745) (fun _ h9 => h9) rfl (by decide +kernel) rfl rfl (Nat.le_of_ble_eq_true rfl) dX2_lookAt_110 (fun H locs hP hD hS => ?_)
      have hi_123 : invX2 g ws_117 h0 [.ref r0_1, .int 8, .int z_103, .int r_87, .int r_94, .int z_115, .int r_121, .ref r7_1, .int c8_1, .int c9_1, .long l10_1, .int c11_1] := ⟨r0_1, (8), (z_103), (r_87), (r_94), (z_115), (r_121), r7_1, (n7_1), (c8_1), (c9_1), (l10_1), (c11_1), rfl, o_r0_1, a_r7_1, f2_1, f3_1, f_104, trivial⟩
      obtain ⟨ws_124, e_ws_124⟩ : ∃ z, z = ws_117.set k_1 (h0, .inr (2, [.ref r0_1, .int 8, .int z_103, .int r_87, .int r_94, .int z_115, .int r_121, .ref r7_1, .int c8_1, .int c9_1, .long l10_1, .int c11_1])) := ⟨_, rfl⟩
      have hP : va_P (gD g) cl0 ws_124 H := by rw [e_ws_124]; exact hP
      have hD : va_D A ws_124 := by rw [e_ws_124]; exact hD
      have E_125 : gE ws_117 ws_124 := gE_set e_ws_124 hk_1 (cw_o (fi := 6) (v := .int r_121) rfl (by decide))
      have hG : Good g ws_124 := Good_set (fi := 6) (v := .int r_121) e_ws_124 hk_1 E_125 rfl hV9 hG (ivX2 hi_123)
      have Fr_126 : gF [(2, 6)] [] (some h0) ws_117 ws_124 := gF_put (fi := 6) (v := .int r_121) e_ws_124 hk_1 rfl (by decide)
      have hkN := gset_self e_ws_124 hk_1
      have hk_2 := gset_ob e_ws_124 hk_1 hk_2 (by decide)
      have hk_1 := hkN
      have o_h0 := E_125.1 _ _ o_h0
      have o_r0_1 := E_125.1 _ _ o_r0_1
      have a_r7_1 := E_125.1 _ _ a_r7_1
      have a_r0_2 := E_125.1 _ _ a_r0_2
      have a_r4_2 := E_125.1 _ _ a_r4_2
      have a_r9_2 := E_125.1 _ _ a_r9_2
      have a_r10_2 := E_125.1 _ _ a_r10_2
      have a_r11_2 := E_125.1 _ _ a_r11_2
      refine W.widen (k := 0) (n := 0) (Nat.le_of_ble_eq_true rfl) (Nat.le_of_ble_eq_true rfl) ?_
      exact W.vret hx hb hr (fun t9 ht9 hW9 => ⟨⟨ws_124, rfl, ⟨(gP_of hD hk_1 (fun q90 e90 => by cases e90; exact (by have q_r_121 := h_r_121; have g_r_121 := i_rg r_121; omega))), ⟨(fun f9 e9 n9 c9 m9 q9 => by have hj : jSt c9 x1 = (0 : Int32) := (by unfold jSt; rw [if_pos (by have e0 : (0 : Int32).toInt = 0 := (by decide); have e24 : (24 : Int32).toInt = 24 := (by decide); have q_c_3 := i_nlt c_3; have q_c_44 := i_nlt c_44; have g_x1 := i_rg x1; omega)]); have hcd : jSt c9 x1 + 8 = (8 : Int32) := (by rw [hj]; decide); have hsz : jSz f9 e9 n9 (jSt c9 x1) = z_103 := (by have y9 := xp_102 _ _ _ (vw_mo ((gF.tr (gF.mo (F' := [(2, 3), (2, 4)]) (C' := []) (S' := none) Fr_92 (by decide) (fun _ h => h) (Or.inl rfl)) (gF.mo (F' := [(2, 3), (2, 4)]) (C' := []) (S' := none) Fr_99 (by decide) (fun _ h => h) (Or.inl rfl)))) (by decide) (by decide) (by decide) (vm_vw hD0 hkH rfl q9)); unfold jSz; rw [hj]; rw [show (0 : Int32) + 4 = 4 from by decide]; rw [← y9]; exact ez_103.symm); rw [hcd, hsz]; exact ⟨_, _, _, hk_1, rfl, rfl, rfl, vw_mo ((gF.tr (gF.mo (F' := [(2, 1), (2, 2), (2, 3), (2, 4), (2, 5), (2, 6)]) (C' := []) (S' := none) Fr_92 (by decide) (fun _ h => h) (Or.inl rfl)) (gF.tr (gF.mo (F' := [(2, 1), (2, 2), (2, 3), (2, 4), (2, 5), (2, 6)]) (C' := []) (S' := none) Fr_99 (by decide) (fun _ h => h) (Or.inl rfl)) (gF.tr (gF.mo (F' := [(2, 1), (2, 2), (2, 3), (2, 4), (2, 5), (2, 6)]) (C' := []) (S' := none) Fr_108 (by decide) (fun _ h => h) (Or.inl rfl)) (gF.tr (gF.mo (F' := [(2, 1), (2, 2), (2, 3), (2, 4), (2, 5), (2, 6)]) (C' := []) (S' := none) Fr_113 (by decide) (fun _ h => h) (Or.inl rfl)) (gF.tr (gF.mo (F' := [(2, 1), (2, 2), (2, 3), (2, 4), (2, 5), (2, 6)]) (C' := []) (S' := none) Fr_119 (by decide) (fun _ h => h) (Or.inl rfl)) (gF.mo (F' := [(2, 1), (2, 2), (2, 3), (2, 4), (2, 5), (2, 6)]) (C' := []) (S' := none) Fr_126 (by decide) (fun _ h => h) (Or.inl rfl)))))))) (by decide) (by decide) (by decide) (vm_vw hD0 hkH rfl q9)⟩), (fun f9 e9 n9 c9 m9 q9 => by have hj : jSt c9 x1 = (0 : Int32) := (by unfold jSt; rw [if_pos (by have e0 : (0 : Int32).toInt = 0 := (by decide); have e24 : (24 : Int32).toInt = 24 := (by decide); have q_c_3 := i_nlt c_3; have q_c_44 := i_nlt c_44; have g_x1 := i_rg x1; omega)]); have hcd : jSt c9 x1 + 8 = (8 : Int32) := (by rw [hj]; decide); have hsz : jSz f9 e9 n9 (jSt c9 x1) = z_103 := (by have y9 := xp_102 _ _ _ (vw_mo ((gF.tr (gF.mo (F' := [(2, 3), (2, 4)]) (C' := []) (S' := none) Fr_92 (by decide) (fun _ h => h) (Or.inl rfl)) (gF.mo (F' := [(2, 3), (2, 4)]) (C' := []) (S' := none) Fr_99 (by decide) (fun _ h => h) (Or.inl rfl)))) (by decide) (by decide) (by decide) (vm_vw hD0 hkH rfl q9)); unfold jSz; rw [hj]; rw [show (0 : Int32) + 4 = 4 from by decide]; rw [← y9]; exact ez_103.symm); have y8 := xp_122 _ _ _ (vw_mo ((gF.tr (gF.mo (F' := [(2, 1), (2, 2), (2, 3), (2, 4), (2, 5)]) (C' := []) (S' := none) Fr_92 (by decide) (fun _ h => h) (Or.inl rfl)) (gF.tr (gF.mo (F' := [(2, 1), (2, 2), (2, 3), (2, 4), (2, 5)]) (C' := []) (S' := none) Fr_99 (by decide) (fun _ h => h) (Or.inl rfl)) (gF.tr (gF.mo (F' := [(2, 1), (2, 2), (2, 3), (2, 4), (2, 5)]) (C' := []) (S' := none) Fr_108 (by decide) (fun _ h => h) (Or.inl rfl)) (gF.tr (gF.mo (F' := [(2, 1), (2, 2), (2, 3), (2, 4), (2, 5)]) (C' := []) (S' := none) Fr_113 (by decide) (fun _ h => h) (Or.inl rfl)) (gF.mo (F' := [(2, 1), (2, 2), (2, 3), (2, 4), (2, 5)]) (C' := []) (S' := none) Fr_119 (by decide) (fun _ h => h) (Or.inl rfl))))))) (by decide) (by decide) (by decide) (vm_vw hD0 hkH rfl q9)); exact ⟨_, _, hk_1, (by rw [hcd, hsz, ← ez_120, ← y8]; rfl)⟩)⟩⟩, ⟨(E_91.tr (E_98.tr (E_107.tr (E_112.tr (E_118.tr E_125))))), (gF.tr (gF.mo (F' := [(2, 1), (2, 2), (2, 3), (2, 4), (2, 5), (2, 6)]) (C' := []) (S' := none) Fr_92 (by decide) (fun _ h => h) (Or.inl rfl)) (gF.tr (gF.mo (F' := [(2, 1), (2, 2), (2, 3), (2, 4), (2, 5), (2, 6)]) (C' := []) (S' := none) Fr_99 (by decide) (fun _ h => h) (Or.inl rfl)) (gF.tr (gF.mo (F' := [(2, 1), (2, 2), (2, 3), (2, 4), (2, 5), (2, 6)]) (C' := []) (S' := none) Fr_108 (by decide) (fun _ h => h) (Or.inl rfl)) (gF.tr (gF.mo (F' := [(2, 1), (2, 2), (2, 3), (2, 4), (2, 5), (2, 6)]) (C' := []) (S' := none) Fr_113 (by decide) (fun _ h => h) (Or.inl rfl)) (gF.tr (gF.mo (F' := [(2, 1), (2, 2), (2, 3), (2, 4), (2, 5), (2, 6)]) (C' := []) (S' := none) Fr_119 (by decide) (fun _ h => h) (Or.inl rfl)) (gF.mo (F' := [(2, 1), (2, 2), (2, 3), (2, 4), (2, 5), (2, 6)]) (C' := []) (S' := none) Fr_126 (by decide) (fun _ h => h) (Or.inl rfl))))))), hG, by rw [ht9]; exact hP, hD⟩⟩, hS.F ht9⟩) hS.2.2 dX2_lookAt_113
set_option maxHeartbeats 1000000 in
set_option maxRecDepth 100000 in
theorem m_X7_breaks_z (l : Launch) (g : Gm) (sz : Nat) (ws : va_W) (h0 : Nat) (x1 : Int32) (x2 : Int32) (hG : Good g ws) (o_h0 : gC ws h0 6) : Met l yX7_breaks (wt yX7_breaks cX7_breaks 3 (some .boolean)) ({ frames := 0, cells := 0, slots := 0, locals := 0 }) (va_Pc [.ref h0, .int x1, .int x2] (st_G g sz ws)) (va_Qi (fun (r : Int32) (u9 : va_W) => (r = 0 ∨ r = 1) ∧ (r.toInt = 0)) (gQ1 g [(6, 2), (6, 3)] [] none (va_A ws sz) ws) (va_A ws sz)) (0) (0) (va_A ws sz) := by
  refine Met.ofW (cc := cX7_breaks) (maxL := 3) (ret := (some .boolean)) (by decide) rfl ?_
  intro p e s m args below meth c s₁ B hml hv
  obtain ⟨rfl, hsz, hP, hK, hD0, hex, hE⟩ := hv
  have hx := B.exec
  have hb := B.bytes
  have hr := B.returns
  have hts0 := atoms_spec (ws := wt yX7_breaks cX7_breaks 3 (some .boolean)) B.pre
  have hts : ∀ w ∈ tb, w.before _ s = true := fun w h => hts0 w (List.mem_cons_of_mem _ h)
  have hown : s.vm.findClass RX7 = some m.cls := findClass_of_methodNamed B.named
  subst hsz
  have hD := hD0.self (sz := s.heap.size)
  generalize hAe : va_A ws s.heap.size = A at hD hE ⊢
  have hA : ∀ q : Nat, s.heap.size ≤ q → A q := fun q h => by rw [← hAe]; exact Or.inr h
  have hS : va_S A s.heap s.heap [] := va_S.rf
  have hl := lv_entry ([.ref h0, .int x1, .int x2]) (n := 3) (Nat.le_of_ble_eq_true rfl)
  rw [lg_entry_eq]
  generalize (lg_sl ([.ref h0, .int x1, .int x2]) ++ List.replicate (3 - (lg_sl ([.ref h0, .int x1, .int x2])).length) Slot.unset).toArray = ls at hl ⊢
  have hl : lv_has ls 3 [(0, .ref h0), (1, .int x1), (2, .int x2)] := hl
  refine lv_aload_n hx hb dX7_breaks_0 rfl (lv_at hl 0 rfl) ?_
  refine lv_iload_n hx hb dX7_breaks_1 rfl (lv_at hl 1 rfl) ?_
  obtain ⟨k_1, fs9, hk_1⟩ := gC_of o_h0
  obtain ⟨r0_1, n0_1, c1_1, c2_1, c3_1, r4_1, n4_1, c5_1, c6_1, c7_1, c8_1, r9_1, n9_1, r10_1, n10_1, r11_1, n11_1, c12_1, c13_1, c14_1, c15_1, c16_1, rfl, a_r0_1, f1_1, a_r4_1, f3_1, a_r9_1, f5_1, a_r10_1, f7_1, a_r11_1, f9_1, f10_1, f11_1, f12_1, f13_1, f14_1, -⟩ := (hG.1 _ _ _ _ hk_1).hX7 rfl
  have hV9 : okv ws 6 2 (.int x1) := okv_i
  refine va_put (D := gD g) (ci := 6) (v := .int x1) (ty := .int) (C := RX7) (T := TX7) (N := 17) hx hb hts inX7 tyX7 tyX7_ok nmX7 hown hK hP hD hS k_1 hk_1 rfl 2 (by decide) (hts _ kw_1280) (fun _ h9 => h9) rfl (by decide +kernel) rfl rfl (Nat.le_of_ble_eq_true rfl) dX7_breaks_2 (fun H locs hP hD hS => ?_)
  have hi_2 : invX7 g ws h0 [.ref r0_1, .int c1_1, .int x1, .int c3_1, .ref r4_1, .int c5_1, .int c6_1, .int c7_1, .int c8_1, .ref r9_1, .ref r10_1, .ref r11_1, .int c12_1, .int c13_1, .int c14_1, .int c15_1, .int c16_1] := ⟨r0_1, (n0_1), (c1_1), (x1), (c3_1), r4_1, (n4_1), (c5_1), (c6_1), (c7_1), (c8_1), r9_1, (n9_1), r10_1, (n10_1), r11_1, (n11_1), (c12_1), (c13_1), (c14_1), (c15_1), (c16_1), rfl, a_r0_1, f1_1, a_r4_1, f3_1, a_r9_1, f5_1, a_r10_1, f7_1, a_r11_1, f9_1, f10_1, f11_1, f12_1, f13_1, f14_1, trivial⟩
  obtain ⟨ws_3, e_ws_3⟩ : ∃ z, z = ws.set k_1 (h0, .inr (6, [.ref r0_1, .int c1_1, .int x1, .int c3_1, .ref r4_1, .int c5_1, .int c6_1, .int c7_1, .int c8_1, .ref r9_1, .ref r10_1, .ref r11_1, .int c12_1, .int c13_1, .int c14_1, .int c15_1, .int c16_1])) := ⟨_, rfl⟩
  have hP : va_P (gD g) cl0 ws_3 H := by rw [e_ws_3]; exact hP
  have hD : va_D A ws_3 := by rw [e_ws_3]; exact hD
  have E_4 : gE ws ws_3 := gE_set e_ws_3 hk_1 (cw_o (fi := 2) (v := .int x1) rfl (by decide))
  have hG : Good g ws_3 := Good_set (fi := 2) (v := .int x1) e_ws_3 hk_1 E_4 rfl hV9 hG (ivX7 hi_2)
  have Fr_5 : gF [(6, 2)] [] (some h0) ws ws_3 := gF_put (fi := 2) (v := .int x1) e_ws_3 hk_1 rfl (by decide)
  have hkN := gset_self e_ws_3 hk_1
  have hk_1 := hkN
  have o_h0 := E_4.1 _ _ o_h0
  have a_r0_1 := E_4.1 _ _ a_r0_1
  have a_r4_1 := E_4.1 _ _ a_r4_1
  have a_r9_1 := E_4.1 _ _ a_r9_1
  have a_r10_1 := E_4.1 _ _ a_r10_1
  have a_r11_1 := E_4.1 _ _ a_r11_1
  refine lv_aload_n hx hb dX7_breaks_5 rfl (lv_at hl 0 rfl) ?_
  refine lv_iload_n hx hb dX7_breaks_6 rfl (lv_at hl 2 rfl) ?_
  have hV9 : okv ws_3 6 3 (.int x2) := okv_i
  refine va_put (D := gD g) (ci := 6) (v := .int x2) (ty := .int) (C := RX7) (T := TX7) (N := 17) hx hb hts inX7 tyX7 tyX7_ok nmX7 hown hK hP hD hS k_1 hk_1 rfl 3 (by decide) (hts _ kw_1281) (fun _ h9 => h9) rfl (by decide +kernel) rfl rfl (Nat.le_of_ble_eq_true rfl) dX7_breaks_7 (fun H locs hP hD hS => ?_)
  have hi_6 : invX7 g ws_3 h0 [.ref r0_1, .int c1_1, .int x1, .int x2, .ref r4_1, .int c5_1, .int c6_1, .int c7_1, .int c8_1, .ref r9_1, .ref r10_1, .ref r11_1, .int c12_1, .int c13_1, .int c14_1, .int c15_1, .int c16_1] := ⟨r0_1, (n0_1), (c1_1), (x1), (x2), r4_1, (n4_1), (c5_1), (c6_1), (c7_1), (c8_1), r9_1, (n9_1), r10_1, (n10_1), r11_1, (n11_1), (c12_1), (c13_1), (c14_1), (c15_1), (c16_1), rfl, a_r0_1, f1_1, a_r4_1, f3_1, a_r9_1, f5_1, a_r10_1, f7_1, a_r11_1, f9_1, f10_1, f11_1, f12_1, f13_1, f14_1, trivial⟩
  obtain ⟨ws_7, e_ws_7⟩ : ∃ z, z = ws_3.set k_1 (h0, .inr (6, [.ref r0_1, .int c1_1, .int x1, .int x2, .ref r4_1, .int c5_1, .int c6_1, .int c7_1, .int c8_1, .ref r9_1, .ref r10_1, .ref r11_1, .int c12_1, .int c13_1, .int c14_1, .int c15_1, .int c16_1])) := ⟨_, rfl⟩
  have hP : va_P (gD g) cl0 ws_7 H := by rw [e_ws_7]; exact hP
  have hD : va_D A ws_7 := by rw [e_ws_7]; exact hD
  have E_8 : gE ws_3 ws_7 := gE_set e_ws_7 hk_1 (cw_o (fi := 3) (v := .int x2) rfl (by decide))
  have hG : Good g ws_7 := Good_set (fi := 3) (v := .int x2) e_ws_7 hk_1 E_8 rfl hV9 hG (ivX7 hi_6)
  have Fr_9 : gF [(6, 3)] [] (some h0) ws_3 ws_7 := gF_put (fi := 3) (v := .int x2) e_ws_7 hk_1 rfl (by decide)
  have hkN := gset_self e_ws_7 hk_1
  have hk_1 := hkN
  have o_h0 := E_8.1 _ _ o_h0
  have a_r0_1 := E_8.1 _ _ a_r0_1
  have a_r4_1 := E_8.1 _ _ a_r4_1
  have a_r9_1 := E_8.1 _ _ a_r9_1
  have a_r10_1 := E_8.1 _ _ a_r10_1
  have a_r11_1 := E_8.1 _ _ a_r11_1
  refine lv_iconst (v := 0) hx hb dX7_breaks_10 (by decide) ?_
  refine W.widen (k := 0) (n := 0) (Nat.le_of_ble_eq_true rfl) (Nat.le_of_ble_eq_true rfl) ?_
  exact W.zret (v := 0) hx hb hr (nz (Or.inl rfl)) (fun t9 ht9 hW9 => ⟨⟨_, ws_7, rfl, ⟨(Or.inl rfl), (by decide)⟩, ⟨(E_4.tr E_8), (gF.tr (gF.mo (F' := [(6, 2), (6, 3)]) (C' := []) (S' := none) Fr_5 (by decide) (fun _ h => h) (Or.inl rfl)) (gF.mo (F' := [(6, 2), (6, 3)]) (C' := []) (S' := none) Fr_9 (by decide) (fun _ h => h) (Or.inl rfl))), hG, by rw [ht9]; exact hP, hD⟩⟩, hS.F ht9⟩) hS.2.2 dX7_breaks_11
set_option maxHeartbeats 1000000 in
set_option maxRecDepth 100000 in
theorem m_X2_instructionsHold_z (l : Launch) (g : Gm) (sz : Nat) (ws : va_W) (h0 : Nat) (hG : Good g ws) (o_h0 : gC ws h0 2) : Met l yX2_instructionsHold (wt yX2_instructionsHold cX2_instructionsHold 3 (some .boolean)) ({ frames := 4, cells := 0, slots := 0, locals := 88 }) (va_Pc [.ref h0] (st_G g sz ws)) (va_Qi (fun (r : Int32) (u9 : va_W) => (r = 0 ∨ r = 1) ∧ (r.toInt = 1 → wfA g u9 h0)) (gQ1 g [(2, 1), (2, 2), (2, 3), (2, 4), (2, 5), (2, 6), (6, 2), (6, 3)] [] none (va_A ws sz) ws) (va_A ws sz)) (0) (0) (va_A ws sz) := by
  refine Met.ofW (cc := cX2_instructionsHold) (maxL := 3) (ret := (some .boolean)) (by decide) rfl ?_
  intro p e s m args below meth c s₁ B hml hv
  obtain ⟨rfl, hsz, hP, hK, hD0, hex, hE⟩ := hv
  have hx := B.exec
  have hb := B.bytes
  have hr := B.returns
  have hts0 := atoms_spec (ws := wt yX2_instructionsHold cX2_instructionsHold 3 (some .boolean)) B.pre
  have hts : ∀ w ∈ tb, w.before _ s = true := fun w h => hts0 w (List.mem_cons_of_mem _ h)
  have hown : s.vm.findClass RX2 = some m.cls := findClass_of_methodNamed B.named
  subst hsz
  have hD := hD0.self (sz := s.heap.size)
  generalize hAe : va_A ws s.heap.size = A at hD hE ⊢
  have hA : ∀ q : Nat, s.heap.size ≤ q → A q := fun q h => by rw [← hAe]; exact Or.inr h
  have hS : va_S A s.heap s.heap [] := va_S.rf
  have hl := lv_entry ([.ref h0]) (n := 3) (Nat.le_of_ble_eq_true rfl)
  rw [lg_entry_eq]
  generalize (lg_sl ([.ref h0]) ++ List.replicate (3 - (lg_sl ([.ref h0])).length) Slot.unset).toArray = ls at hl ⊢
  have hl : lv_has ls 3 [(0, .ref h0)] := hl
  obtain ⟨k_1, fs9, hk_1⟩ := gC_of o_h0
  obtain ⟨r0_1, c1_1, c2_1, c3_1, c4_1, c5_1, c6_1, r7_1, n7_1, c8_1, c9_1, l10_1, c11_1, rfl, o_r0_1, a_r7_1, f2_1, f3_1, f4_1, -⟩ := (hG.1 _ _ _ _ hk_1).hX2 rfl
  obtain ⟨k_2, fs9, hk_2⟩ := gC_of o_r0_1
  obtain ⟨r0_2, n0_2, c1_2, c2_2, c3_2, r4_2, n4_2, c5_2, c6_2, c7_2, c8_2, r9_2, n9_2, r10_2, n10_2, r11_2, n11_2, c12_2, c13_2, c14_2, c15_2, c16_2, rfl, a_r0_2, f1_2, a_r4_2, f3_2, a_r9_2, f5_2, a_r10_2, f7_2, a_r11_2, f9_2, f10_2, f11_2, f12_2, f13_2, f14_2, -⟩ := (hG.1 _ _ _ _ hk_2).hX7 rfl
  obtain ⟨k_3, f_3, hk_3⟩ := gI_of a_r0_2
  obtain ⟨k_4, f_4, hk_4⟩ := gI_of a_r10_2
  have tq_5 : wfP g ws h0 (0 : Int32) := wfP_0 hk_1 rfl hk_2 rfl rfl hk_3 rfl rfl hk_4 (by decide)
  refine lv_iconst (v := 0) hx hb dX2_instructionsHold_0 (by decide) ?_
  refine lv_istore_n (lv' := [(1, .int 0), (0, .ref h0)]) hx hb dX2_instructionsHold_1 rfl hl (by decide) rfl (fun ls hl => ?_)
  have J_2 : ∀ (n9 : Nat) (v1_6 : Int32) (ws_8 : va_W) (H : Heap) (locs : List Loc) (ls : Array Slot), (2147483647 - v1_6.toInt).toNat = n9 → 0 ≤ v1_6.toInt → gE ws ws_8 → gF [(2, 1), (2, 2), (2, 3), (2, 4), (2, 5), (2, 6)] [] none ws ws_8 → Good g ws_8 → wfP g ws_8 h0 v1_6 → va_P (gD g) cl0 ws_8 H → va_D A ws_8 → va_S A s.heap H locs → lv_has ls 3 [(0, .ref h0), (1, .int v1_6)] → W p l e (headSpec (wt yX2_instructionsHold cX2_instructionsHold 3 (some .boolean)) ({ frames := 4, cells := 0, slots := 0, locals := 88 })).room s m ([.ref h0] : List Value).toArray below meth c H locs (0) (0) (MQ below (va_Qi (fun (r : Int32) (u9 : va_W) => (r = 0 ∨ r = 1) ∧ (r.toInt = 1 → wfA g u9 h0)) (gQ1 g [(2, 1), (2, 2), (2, 3), (2, 4), (2, 5), (2, 6), (6, 2), (6, 3)] [] none A ws) A) ([.ref h0] : List Value).toArray s (0) (0) A) (F0 m 2 ls []) := by
    intro n9
    induction n9 using Nat.strongRecOn with
    | ind n9 ih_2 =>
      intro v1_6 ws_8 H locs ls hm9 iv_7 E_9 Fr_10 hG jx_2_0 hP hD hS hl
      subst hm9
      have aa_11 := a_r7_1
      have aa_12 := a_r0_2
      have aa_13 := a_r4_2
      have aa_14 := a_r9_2
      have aa_15 := a_r10_2
      have aa_16 := a_r11_2
      have o_h0 := E_9.1 _ _ o_h0
      refine lv_iload_n hx hb dX2_instructionsHold_2 rfl (lv_at hl 1 rfl) ?_
      refine lv_aload_n hx hb dX2_instructionsHold_3 rfl (lv_at hl 0 rfl) ?_
      obtain ⟨fs9, hk_17, hq_17⟩ := ((gF.a (F' := [(2, 1), (2, 2), (2, 3), (2, 4), (2, 5), (2, 6)]) Fr_10 (fun _ h => h))) _ _ _ hk_1
      obtain ⟨r0_17, c1_17, c2_17, c3_17, c4_17, c5_17, c6_17, r7_17, n7_17, c8_17, c9_17, l10_17, c11_17, rfl, o_r0_17, a_r7_17, f2_17, f3_17, f4_17, -⟩ := (hG.1 _ _ _ _ hk_17).hX2 rfl
      obtain rfl := fe_r (hq_17 0 (by decide))
      have o_r0_1 := o_r0_17
      refine va_get (D := gD g) (ci := 2) (v := .ref r0_1) (C := RX2) (T := TX2) (N := 12) hx hb hts inX2 hown hK hP k_1 hk_17 rfl 0 (by decide) (hts _ kw_632) (fun _ h9 => h9) rfl dX2_instructionsHold_4 ?_
      obtain ⟨fs9, hk_18, hq_18⟩ := ((gF.a (F' := [(2, 1), (2, 2), (2, 3), (2, 4), (2, 5), (2, 6)]) Fr_10 (fun _ h => h))) _ _ _ hk_2
      obtain ⟨r0_18, n0_18, c1_18, c2_18, c3_18, r4_18, n4_18, c5_18, c6_18, c7_18, c8_18, r9_18, n9_18, r10_18, n10_18, r11_18, n11_18, c12_18, c13_18, c14_18, c15_18, c16_18, rfl, a_r0_18, f1_18, a_r4_18, f3_18, a_r9_18, f5_18, a_r10_18, f7_18, a_r11_18, f9_18, f10_18, f11_18, f12_18, f13_18, f14_18, -⟩ := (hG.1 _ _ _ _ hk_18).hX7 rfl
      obtain rfl := fe_i (hq_18 8 (by decide))
      refine va_get (D := gD g) (ci := 6) (v := .int c8_2) (C := RX7) (T := TX7) (N := 17) hx hb hts inX7 hown hK hP k_2 hk_18 rfl 8 (by decide) (hts _ kw_646) (fun _ h9 => h9) rfl dX2_instructionsHold_7 ?_
      refine lv_icmp_ge (tgt := 69) hx hb dX2_instructionsHold_10 (by decide) (fun c_19 => ?_) (fun c_19 => ?_)
      · refine lv_iconst (v := 1) hx hb dX2_instructionsHold_69 (by decide) ?_
        refine W.widen (k := 0) (n := 0) (Nat.le_of_ble_eq_true rfl) (Nat.le_of_ble_eq_true rfl) ?_
        exact W.zret (v := 1) hx hb hr (nz (Or.inr rfl)) (fun t9 ht9 hW9 => ⟨⟨_, ws_8, rfl, ⟨(Or.inr rfl), (fun _ => wfA_P hD hk_17 rfl hk_18 rfl (by have q_iv_7 := iv_7; have q_c_19 := i_le c_19; have g_c8_2 := i_rg c8_2; have g_v1_6 := i_rg v1_6; omega) jx_2_0)⟩, ⟨E_9, (gF.mo (F' := [(2, 1), (2, 2), (2, 3), (2, 4), (2, 5), (2, 6), (6, 2), (6, 3)]) (C' := []) (S' := none) Fr_10 (by decide) (fun _ h => h) (Or.inr rfl)), hG, by rw [ht9]; exact hP, hD⟩⟩, hS.F ht9⟩) hS.2.2 dX2_instructionsHold_70
      · refine lv_aload_n hx hb dX2_instructionsHold_13 rfl (lv_at hl 0 rfl) ?_
        refine lv_iload_n hx hb dX2_instructionsHold_14 rfl (lv_at hl 1 rfl) ?_
        have hFc := gfree hD hS hA
        refine va_callv (va_runV (As := [.int v1_6]) (rest := []) ⟨hx, hb, hml, hown, hts⟩ (m_X2_lookAt_z l g H.size ws_8 h0 (v1_6) hG o_h0) (cwV 1 hts (gd_V kw_715 kw_739 kw_740 kw_389 kw_738) rfl rfl rfl (by decide +kernel) ⟨Nat.le_of_ble_eq_true rfl, Nat.le_of_ble_eq_true rfl⟩) ⟨gblind, va_recv hK hP (ci := 2) (q0 := k_1) rfl hk_17, fun U hU hW9 => gmk hU hW9 hP hK hD hex hE hS hFc⟩ rfl rfl hl.1 rfl (lv_room (Nat.le_of_ble_eq_true rfl)) dX2_instructionsHold_15 ⟨Nat.le_of_ble_eq_true rfl, Nat.le_of_ble_eq_true rfl⟩) hS (fun q _ h => hFc q h) hFc (fun  ws_20 t9 H1 locs ht9 hvm9 hw9 hB9 hz9 hk9 hS => ?_)
        obtain ⟨E_21, Fr_22, hG, hP1, hD1⟩ := hB9
        have hP : va_P (gD g) cl0 ws_20 H1 := by rw [← ht9]; exact hP1
        have hD : va_D A ws_20 := hD1.weaken (fun _ _ _ h => hFc _ h)
        obtain ⟨hw9, xp_25⟩ := hw9
        have kf_26 := hw9
        clear hP1 hD1 hz9 hk9 hvm9 ht9 hw9
        generalize H1 = H at hP hS ⊢
        have aa_27 := a_r7_17
        have aa_28 := a_r0_18
        have aa_29 := a_r4_18
        have aa_30 := a_r9_18
        have aa_31 := a_r10_18
        have aa_32 := a_r11_18
        have o_h0 := E_21.1 _ _ o_h0
        have tq_33 : wfS g ws_20 h0 v1_6 (0 : Int32) := wfS_0 Fr_22 (by decide) (by decide) (by decide) (by decide) (by decide) (by decide) (by decide) jx_2_0 xp_25.1
        refine lv_iconst (v := 0) hx hb dX2_instructionsHold_18 (by decide) ?_
        refine lv_istore_n (lv' := [(2, .int 0), (0, .ref h0), (1, .int v1_6)]) hx hb dX2_instructionsHold_19 rfl hl (by decide) rfl (fun ls hl => ?_)
        have J_20 : ∀ (n9 : Nat) (v2_34 : Int32) (H : Heap) (locs : List Loc) (ls : Array Slot), (4000 - v2_34.toInt).toNat = n9 → 0 ≤ v2_34.toInt ∧ v2_34.toInt ≤ 4000 → wfS g ws_20 h0 v1_6 v2_34 → va_P (gD g) cl0 ws_20 H → va_D A ws_20 → va_S A s.heap H locs → lv_has ls 3 [(0, .ref h0), (1, .int v1_6), (2, .int v2_34)] → W p l e (headSpec (wt yX2_instructionsHold cX2_instructionsHold 3 (some .boolean)) ({ frames := 4, cells := 0, slots := 0, locals := 88 })).room s m ([.ref h0] : List Value).toArray below meth c H locs (0) (0) (MQ below (va_Qi (fun (r : Int32) (u9 : va_W) => (r = 0 ∨ r = 1) ∧ (r.toInt = 1 → wfA g u9 h0)) (gQ1 g [(2, 1), (2, 2), (2, 3), (2, 4), (2, 5), (2, 6), (6, 2), (6, 3)] [] none A ws) A) ([.ref h0] : List Value).toArray s (0) (0) A) (F0 m 20 ls []) := by
          intro n9
          induction n9 using Nat.strongRecOn with
          | ind n9 ih_20 =>
            intro v2_34 H locs ls hm9 iv_35 jx_20_0 hP hD hS hl
            subst hm9
            refine lv_iload_n hx hb dX2_instructionsHold_20 rfl (lv_at hl 2 rfl) ?_
            refine lv_aload_n hx hb dX2_instructionsHold_21 rfl (lv_at hl 0 rfl) ?_
            obtain ⟨fs9, hk_38, hq_38⟩ := ((gF.a (F' := [(2, 1), (2, 2), (2, 3), (2, 4), (2, 5), (2, 6)]) Fr_22 (fun _ h => h))) _ _ _ hk_17
            obtain ⟨r0_38, c1_38, c2_38, c3_38, c4_38, c5_38, c6_38, r7_38, n7_38, c8_38, c9_38, l10_38, c11_38, rfl, o_r0_38, a_r7_38, f2_38, f3_38, f4_38, -⟩ := (hG.1 _ _ _ _ hk_38).hX2 rfl
            obtain rfl := fe_r (hq_38 0 (by decide))
            have o_r0_1 := o_r0_38
            have kq_39 := kf_26 _ _ _ hk_38 _ rfl
            refine va_get (D := gD g) (ci := 2) (v := .int c2_38) (C := RX2) (T := TX2) (N := 12) hx hb hts inX2 hown hK hP k_1 hk_38 rfl 2 (by decide) (hts _ kw_716) (fun _ h9 => h9) rfl dX2_instructionsHold_22 ?_
            refine lv_icmp_ge (tgt := 63) hx hb dX2_instructionsHold_25 (by decide) (fun c_40 => ?_) (fun c_40 => ?_)
            · obtain ⟨z_41, ez_41⟩ : ∃ z : Int32, v1_6 + Int32.ofInt 1 = z := ⟨_, rfl⟩
              refine lv_iinc (v := z_41) (lv' := [(1, .int z_41), (0, .ref h0), (2, .int v2_34)]) hx hb dX2_instructionsHold_63 hl (k := 1) rfl ez_41 (by decide) rfl (fun ls hl => ?_)
              have tq_42 : wfP g ws_20 h0 z_41 := wfP_s (m := v1_6) (o := v2_34) (by have q_iv_7 := iv_7; have q_c_19 := i_nle c_19; obtain ⟨u_z_41, q_z_41⟩ := i_iz ez_41 (by decide) (by decide); have g_c8_2 := i_rg c8_2; have g_v1_6 := i_rg v1_6; have g_z_41 := i_rg z_41; omega) (fun f9 e9 n9 c9 s9 q9 => by rw [vx_sz hD hk_38 rfl rfl rfl _ _ _ _ _ q9]; exact (by have q_iv_35 := iv_35; have q_f4_38 := f4_38; have q_c_40 := i_le c_40; have g_c2_38 := i_rg c2_38; have g_v2_34 := i_rg v2_34; omega)) jx_20_0
              refine lv_goto (tgt := 2) hx hb dX2_instructionsHold_66 (by decide) ?_
              exact ih_2 _ (by obtain ⟨u_z_41, q_z_41⟩ := i_iz ez_41 (by decide) (by decide); have q_iv_7 := iv_7; have q_c_19 := i_nle c_19; have g_c8_2 := i_rg c8_2; have g_v1_6 := i_rg v1_6; have g_z_41 := i_rg z_41; omega) (z_41) ws_20 H locs ls rfl (by obtain ⟨u_z_41, q_z_41⟩ := i_iz ez_41 (by decide) (by decide); have q_iv_7 := iv_7; have q_c_19 := i_nle c_19; have g_c8_2 := i_rg c8_2; have g_v1_6 := i_rg v1_6; have g_z_41 := i_rg z_41; omega) ((E_9.tr E_21)) ((gF.tr Fr_10 Fr_22)) hG tq_42 hP hD hS (lv_sub hl [1, 0] rfl)
            · refine lv_aload_n hx hb dX2_instructionsHold_28 rfl (lv_at hl 0 rfl) ?_
              refine lv_iload_n hx hb dX2_instructionsHold_29 rfl (lv_at hl 2 rfl) ?_
              have hFc := gfree hD hS hA
              refine va_calli (va_runV (As := [.int v2_34]) (rest := []) ⟨hx, hb, hml, hown, hts⟩ (m_X2_lengthAt_x l g H.size ws_20 h0 (v2_34) hG o_h0) (cwV 1 hts (gd_V kw_717 kw_723 kw_724 kw_389 kw_722) rfl rfl rfl (by decide +kernel) ⟨Nat.le_of_ble_eq_true rfl, Nat.le_of_ble_eq_true rfl⟩) ⟨gblind, va_recv hK hP (ci := 2) (q0 := k_1) rfl hk_38, fun U hU hW9 => gmk hU hW9 hP hK hD hex hE hS hFc⟩ rfl rfl hl.1 rfl (lv_room (Nat.le_of_ble_eq_true rfl)) dX2_instructionsHold_30 ⟨Nat.le_of_ble_eq_true rfl, Nat.le_of_ble_eq_true rfl⟩) hS (fun q _ h => hFc q h) hFc (fun r_43 u9 t9 H1 locs ht9 hvm9 hw9 hB9 hz9 hk9 hS => ?_)
              have hP : va_P (gD g) cl0 ws_20 H1 := by rw [← ht9]; exact hB9.1
              obtain ⟨hw9, xp_44⟩ := hw9
              have h_r_43 := hw9
              clear hB9 hz9 hk9 hvm9 ht9 hw9
              generalize H1 = H at hP hS ⊢
              refine lv_if_gt (tgt := 52) hx hb dX2_instructionsHold_33 (by decide) (fun c_45 => ?_) (fun c_45 => ?_)
              · refine lv_iload_n hx hb dX2_instructionsHold_52 rfl (lv_at hl 2 rfl) ?_
                refine lv_aload_n hx hb dX2_instructionsHold_53 rfl (lv_at hl 0 rfl) ?_
                refine lv_iload_n hx hb dX2_instructionsHold_54 rfl (lv_at hl 2 rfl) ?_
                have hFc := gfree hD hS hA
                refine va_calli (va_runV (As := [.int v2_34]) (rest := [.int v2_34]) ⟨hx, hb, hml, hown, hts⟩ (m_X2_lengthAt_x l g H.size ws_20 h0 (v2_34) hG o_h0) (cwV 1 hts (gd_V kw_717 kw_723 kw_724 kw_389 kw_722) rfl rfl rfl (by decide +kernel) ⟨Nat.le_of_ble_eq_true rfl, Nat.le_of_ble_eq_true rfl⟩) ⟨gblind, va_recv hK hP (ci := 2) (q0 := k_1) rfl hk_38, fun U hU hW9 => gmk hU hW9 hP hK hD hex hE hS hFc⟩ rfl rfl hl.1 rfl (lv_room (Nat.le_of_ble_eq_true rfl)) dX2_instructionsHold_55 ⟨Nat.le_of_ble_eq_true rfl, Nat.le_of_ble_eq_true rfl⟩) hS (fun q _ h => hFc q h) hFc (fun r_46 u9 t9 H1 locs ht9 hvm9 hw9 hB9 hz9 hk9 hS => ?_)
                have hP : va_P (gD g) cl0 ws_20 H1 := by rw [← ht9]; exact hB9.1
                obtain ⟨hw9, xp_47⟩ := hw9
                have h_r_46 := hw9
                clear hB9 hz9 hk9 hvm9 ht9 hw9
                generalize H1 = H at hP hS ⊢
                obtain ⟨fs9, hk_48, hq_48⟩ := ((gF.a (F' := [(2, 1), (2, 2), (2, 3), (2, 4), (2, 5), (2, 6)]) Fr_22 (fun _ h => h))) _ _ _ hk_18
                obtain ⟨r0_48, n0_48, c1_48, c2_48, c3_48, r4_48, n4_48, c5_48, c6_48, c7_48, c8_48, r9_48, n9_48, r10_48, n10_48, r11_48, n11_48, c12_48, c13_48, c14_48, c15_48, c16_48, rfl, a_r0_48, f1_48, a_r4_48, f3_48, a_r9_48, f5_48, a_r10_48, f7_48, a_r11_48, f9_48, f10_48, f11_48, f12_48, f13_48, f14_48, -⟩ := (hG.1 _ _ _ _ hk_48).hX7 rfl
                obtain rfl := fe_i (hq_48 8 (by decide))
                obtain ⟨k_49, f_49, hk_49⟩ := gI_of a_r0_48
                have ih_50 : r_46.toInt = r_43.toInt := (by have v9 : vx ws_20 h0 _ _ _ _ _ := ⟨_, _, _, hk_38, rfl, rfl, rfl, _, _, _, _, _, hk_48, rfl, rfl, hk_49⟩; rw [xp_47 _ _ _ _ _ v9, xp_44 _ _ _ _ _ v9])
                refine lv_iadd hx hb dX2_instructionsHold_58 ?_
                refine lv_topi (fun z_51 ez_51 => ?_)
                have tq_52 : wfS g ws_20 h0 v1_6 z_51 := wfS_st xp_47 (by have e0 : (0 : Int32).toInt = 0 := (by decide); have q_iv_35 := iv_35; have q_c_40 := i_nle c_40; have q_r_43 := h_r_43; have q_r_46 := h_r_46; have q_ih_50 := ih_50; obtain ⟨u_z_51, q_z_51⟩ := i_add ez_51; have q_f4_38 := f4_38; have q_c_45 := i_lt c_45; have g_c2_38 := i_rg c2_38; have g_r_43 := i_rg r_43; have g_r_46 := i_rg r_46; have g_v2_34 := i_rg v2_34; have g_z_51 := i_rg z_51; omega) ez_51 (fun f9 e9 n9 c9 s9 q9 => by rw [vx_sz hD hk_38 rfl rfl rfl _ _ _ _ _ q9]; exact (by have e0 : (0 : Int32).toInt = 0 := (by decide); have q_iv_35 := iv_35; have q_f4_38 := f4_38; have q_c_40 := i_nle c_40; have q_r_43 := h_r_43; have q_r_46 := h_r_46; obtain ⟨u_z_51, q_z_51⟩ := i_add ez_51; have q_c_45 := i_lt c_45; have q_ih_50 := ih_50; have g_c2_38 := i_rg c2_38; have g_r_43 := i_rg r_43; have g_r_46 := i_rg r_46; have g_v2_34 := i_rg v2_34; have g_z_51 := i_rg z_51; omega)) jx_20_0
                refine lv_istore_n (lv' := [(2, .int z_51), (0, .ref h0), (1, .int v1_6)]) hx hb dX2_instructionsHold_59 rfl hl (by decide) rfl (fun ls hl => ?_)
                refine lv_goto (tgt := 20) hx hb dX2_instructionsHold_60 (by decide) ?_
                exact ih_20 _ (by have e0 : (0 : Int32).toInt = 0 := (by decide); obtain ⟨u_z_51, q_z_51⟩ := i_add ez_51; have q_iv_35 := iv_35; have q_c_40 := i_nle c_40; have q_r_43 := h_r_43; have q_r_46 := h_r_46; have q_ih_50 := ih_50; have q_f4_38 := f4_38; have q_c_45 := i_lt c_45; have g_c2_38 := i_rg c2_38; have g_r_43 := i_rg r_43; have g_r_46 := i_rg r_46; have g_v2_34 := i_rg v2_34; have g_z_51 := i_rg z_51; omega) (z_51) H locs ls rfl (by have e0 : (0 : Int32).toInt = 0 := (by decide); have q_iv_7 := iv_7; have q_c_19 := i_nle c_19; obtain ⟨u_z_51, q_z_51⟩ := i_add ez_51; have q_iv_35 := iv_35; have q_c_40 := i_nle c_40; have q_r_43 := h_r_43; have q_r_46 := h_r_46; have q_ih_50 := ih_50; have q_f4_38 := f4_38; have q_c_45 := i_lt c_45; have g_c2_38 := i_rg c2_38; have g_c8_2 := i_rg c8_2; have g_r_43 := i_rg r_43; have g_r_46 := i_rg r_46; have g_v1_6 := i_rg v1_6; have g_v2_34 := i_rg v2_34; have g_z_51 := i_rg z_51; omega) tq_52 hP hD hS (lv_sub hl [1, 2, 0] rfl)
              · refine lv_aload_n hx hb dX2_instructionsHold_36 rfl (lv_at hl 0 rfl) ?_
                refine va_get (D := gD g) (ci := 2) (v := .ref r0_1) (C := RX2) (T := TX2) (N := 12) hx hb hts inX2 hown hK hP k_1 hk_38 rfl 0 (by decide) (hts _ kw_632) (fun _ h9 => h9) rfl dX2_instructionsHold_37 ?_
                refine lv_bipush (v := 15) hx hb dX2_instructionsHold_40 (by decide) ?_
                refine lv_aload_n hx hb dX2_instructionsHold_42 rfl (lv_at hl 0 rfl) ?_
                refine va_get (D := gD g) (ci := 2) (v := .int c1_38) (C := RX2) (T := TX2) (N := 12) hx hb hts inX2 hown hK hP k_1 hk_38 rfl 1 (by decide) (hts _ kw_718) (fun _ h9 => h9) rfl dX2_instructionsHold_43 ?_
                refine lv_iload_n hx hb dX2_instructionsHold_46 rfl (lv_at hl 2 rfl) ?_
                refine lv_iadd hx hb dX2_instructionsHold_47 ?_
                refine lv_topi (fun z_53 ez_53 => ?_)
                have hFc := gfree hD hS hA
                obtain ⟨k_54, fs_54, hk_54⟩ := gC_of o_r0_1
                refine va_calli (va_runV (As := [.int 15, .int z_53]) (rest := []) ⟨hx, hb, hml, hown, hts⟩ (m_X7_breaks_z l g H.size ws_20 r0_1 (15) (z_53) hG o_r0_1) (cwV 2 hts (gd_V kw_677 kw_1278 kw_1279 kw_710 kw_1277) rfl rfl rfl (by decide +kernel) ⟨Nat.le_of_ble_eq_true rfl, Nat.le_of_ble_eq_true rfl⟩) ⟨gblind, va_recv hK hP (ci := 6) (q0 := k_54) rfl hk_54, fun U hU hW9 => gmk hU hW9 hP hK hD hex hE hS hFc⟩ rfl rfl hl.1 rfl (lv_room (Nat.le_of_ble_eq_true rfl)) dX2_instructionsHold_48 ⟨Nat.le_of_ble_eq_true rfl, Nat.le_of_ble_eq_true rfl⟩) hS (fun q _ h => hFc q h) hFc (fun r_55 ws_56 t9 H1 locs ht9 hvm9 hw9 hB9 hz9 hk9 hS => ?_)
                obtain ⟨E_57, Fr_58, hG, hP1, hD1⟩ := hB9
                have hP : va_P (gD g) cl0 ws_56 H1 := by rw [← ht9]; exact hP1
                have hD : va_D A ws_56 := hD1.weaken (fun _ _ _ h => hFc _ h)
                obtain ⟨hw9, xp_61⟩ := hw9
                have hz_r_55 : r_55 = 0 ∨ r_55 = 1 := hw9
                clear hP1 hD1 hz9 hk9 hvm9 ht9 hw9
                generalize H1 = H at hP hS ⊢
                have aa_62 := a_r7_38
                have o_h0 := E_57.1 _ _ o_h0
                refine W.widen (k := 0) (n := 0) (Nat.le_of_ble_eq_true rfl) (Nat.le_of_ble_eq_true rfl) ?_
                exact W.zret (v := r_55) hx hb hr (nz hz_r_55) (fun t9 ht9 hW9 => ⟨⟨_, ws_56, rfl, ⟨hz_r_55, (fun h9 => absurd h9 (by have q9 := xp_61; omega))⟩, ⟨(E_9.tr (E_21.tr E_57)), (gF.tr (gF.mo (F' := [(2, 1), (2, 2), (2, 3), (2, 4), (2, 5), (2, 6), (6, 2), (6, 3)]) (C' := []) (S' := none) Fr_10 (by decide) (fun _ h => h) (Or.inr rfl)) (gF.tr (gF.mo (F' := [(2, 1), (2, 2), (2, 3), (2, 4), (2, 5), (2, 6), (6, 2), (6, 3)]) (C' := []) (S' := none) Fr_22 (by decide) (fun _ h => h) (Or.inr rfl)) (gF.mo (F' := [(2, 1), (2, 2), (2, 3), (2, 4), (2, 5), (2, 6), (6, 2), (6, 3)]) (C' := []) (S' := none) Fr_58 (by decide) (fun _ h => h) (Or.inr rfl)))), hG, by rw [ht9]; exact hP, hD⟩⟩, hS.F ht9⟩) hS.2.2 dX2_instructionsHold_51
        exact J_20 _ (0) H locs ls rfl (by have e0 : (0 : Int32).toInt = 0 := (by decide); have q_iv_7 := iv_7; have q_c_19 := i_nle c_19; have g_c8_2 := i_rg c8_2; have g_v1_6 := i_rg v1_6; omega) tq_33 hP hD hS (lv_sub hl [1, 2, 0] rfl)
  exact J_2 _ (0) ws _ _ ls rfl (by have e0 : (0 : Int32).toInt = 0 := (by decide); omega) (gE.rf) (gF.rf) hG tq_5 hP hD hS (lv_sub hl [1, 0] rfl)
