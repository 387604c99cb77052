set_option maxHeartbeats 1000000 in
set_option maxRecDepth 100000 in
theorem m_X2_lookAt_z (l : Launch) (g : Gm) (sz : Nat) (ws : va_W) (h0 : Nat) (x1 : Int32) (hG : Good g ws) (o_h0 : gC ws h0 2) : Met l yX2_lookAt (wt yX2_lookAt cX2_lookAt 3 none) ({ frames := 1, cells := 0, slots := 0, locals := 21 }) (va_Pc [.ref h0, .int x1] (st_G g sz ws)) (va_Qv (fun (u9 : va_W) => (gP u9 h0 (fun fs => ∀ c : Int32, fs[6]? = some (.int c) → 0 ≤ c.toInt ∧ c.toInt ≤ 65535)) ∧ (lkP ws u9 h0 x1)) (gQ1 g [(2, 1), (2, 2), (2, 3), (2, 4), (2, 5), (2, 6)] [] none (va_A ws sz) ws) (va_A ws sz)) (0) (0) (va_A ws sz) := by
  refine Met.ofW (cc := cX2_lookAt) (maxL := 3) (ret := none) (by decide) rfl ?_
  intro p e s m args below meth c s₁ B hml hv
  obtain ⟨rfl, hsz, hP, hK, hD0, hex, hE⟩ := hv
  have hx := B.exec
  have hb := B.bytes
  have hr := B.returns
  have hts0 := atoms_spec (ws := wt yX2_lookAt cX2_lookAt 3 none) B.pre
  have hts : ∀ w ∈ tb, w.before _ s = true := fun w h => hts0 w (List.mem_cons_of_mem _ h)
  have hown : s.vm.findClass RX2 = some m.cls := findClass_of_methodNamed B.named
  subst hsz
  have hD := hD0.self (sz := s.heap.size)
  generalize hAe : va_A ws s.heap.size = A at hD hE ⊢
  have hA : ∀ q : Nat, s.heap.size ≤ q → A q := fun q h => by rw [← hAe]; exact Or.inr h
  have hS : va_S A s.heap s.heap [] := va_S.rf
  have hl := lv_entry ([.ref h0, .int x1]) (n := 3) (Nat.le_of_ble_eq_true rfl)
  rw [lg_entry_eq]
  generalize (lg_sl ([.ref h0, .int x1]) ++ List.replicate (3 - (lg_sl ([.ref h0, .int x1])).length) Slot.unset).toArray = ls at hl ⊢
  have hl : lv_has ls 3 [(0, .ref h0), (1, .int x1)] := hl
  obtain ⟨k_1, fs9, hk_1⟩ := gC_of o_h0
  obtain ⟨r0_1, c1_1, c2_1, c3_1, c4_1, c5_1, c6_1, r7_1, n7_1, c8_1, c9_1, l10_1, c11_1, rfl, o_r0_1, a_r7_1, f2_1, f3_1, f4_1, -⟩ := (hG.1 _ _ _ _ hk_1).hX2 rfl
  obtain ⟨k_2, fs9, hk_2⟩ := gC_of o_r0_1
  obtain ⟨r0_2, n0_2, c1_2, c2_2, c3_2, r4_2, n4_2, c5_2, c6_2, c7_2, c8_2, r9_2, n9_2, r10_2, n10_2, r11_2, n11_2, c12_2, c13_2, c14_2, c15_2, c16_2, rfl, a_r0_2, f1_2, a_r4_2, f3_2, a_r9_2, f5_2, a_r10_2, f7_2, a_r11_2, f9_2, f10_2, f11_2, f12_2, f13_2, f14_2, -⟩ := (hG.1 _ _ _ _ hk_2).hX7 rfl
  have hkH := hk_1
  have hkD := hk_2
  refine lv_iload_n hx hb dX2_lookAt_0 rfl (lv_at hl 1 rfl) ?_
  refine lv_if_lt (tgt := 10) hx hb dX2_lookAt_1 (by decide) (fun c_3 => ?_) (fun c_3 => ?_)
  · refine lv_iconst (v := 0) hx hb dX2_lookAt_10 (by decide) ?_
    refine lv_goto (tgt := 23) hx hb dX2_lookAt_11 (by decide) ?_
    refine lv_istore_n (lv' := [(2, .int 0), (0, .ref h0), (1, .int x1)]) hx hb dX2_lookAt_23 rfl hl (by decide) rfl (fun ls hl => ?_)
    refine lv_aload_n hx hb dX2_lookAt_24 rfl (lv_at hl 1 rfl) ?_
    refine lv_aload_n hx hb dX2_lookAt_25 rfl (lv_at hl 1 rfl) ?_
    refine va_get (D := gD g) (ci := 2) (v := .ref r0_1) (C := RX2) (T := TX2) (N := 12) hx hb hts inX2 hown hK hP k_1 hk_1 rfl 0 (by decide) (hts _ kw_632) (fun _ h9 => h9) rfl dX2_lookAt_26 ?_
    refine lv_iload_n hx hb dX2_lookAt_29 rfl (lv_at hl 0 rfl) ?_
    have hFc := gfree hD hS hA
    refine va_calli (va_runV (As := [.int 0]) (rest := [.ref h0]) ⟨hx, hb, hml, hown, hts⟩ (m_X7_u2 l g s.heap.size ws r0_1 (0) hG o_r0_1) (cwV 1 hts (gd_V kw_651 kw_1450 kw_1451 kw_710 kw_1449) rfl rfl rfl (by decide +kernel) ⟨Nat.le_of_ble_eq_true rfl, Nat.le_of_ble_eq_true rfl⟩) ⟨gblind, va_recv hK hP (ci := 6) (q0 := k_2) rfl hk_2, fun U hU hW9 => gmk hU hW9 hP hK hD hex hE hS hFc⟩ rfl rfl hl.1 rfl (lv_room (Nat.le_of_ble_eq_true rfl)) dX2_lookAt_30 ⟨Nat.le_of_ble_eq_true rfl, Nat.le_of_ble_eq_true rfl⟩) hS (fun q _ h => hFc q h) hFc (fun r_4 u9 t9 H1 locs ht9 hvm9 hw9 hB9 hz9 hk9 hS => ?_)
    have hP : va_P (gD g) cl0 ws H1 := by rw [← ht9]; exact hB9.1
    have h_r_4 := hw9
    clear hB9 hz9 hk9 hvm9 ht9 hw9
    generalize H1 = H at hP hS ⊢
    have hV9 : okv ws 2 3 (.int r_4) := okv_i
    refine va_put (D := gD g) (ci := 2) (v := .int r_4) (ty := .int) (C := RX2) (T := TX2) (N := 12) hx hb hts inX2 tyX2 tyX2_ok nmX2 hown hK hP hD hS k_1 hk_1 rfl 3 (by decide) (hts _ kw_741) (fun _ h9 => h9) rfl (by decide +kernel) rfl rfl (Nat.le_of_ble_eq_true rfl) dX2_lookAt_33 (fun H locs hP hD hS => ?_)
    have hi_5 : invX2 g ws h0 [.ref r0_1, .int c1_1, .int c2_1, .int r_4, .int c4_1, .int c5_1, .int c6_1, .ref r7_1, .int c8_1, .int c9_1, .long l10_1, .int c11_1] := ⟨r0_1, (c1_1), (c2_1), (r_4), (c4_1), (c5_1), (c6_1), r7_1, (n7_1), (c8_1), (c9_1), (l10_1), (c11_1), rfl, o_r0_1, a_r7_1, f2_1, f3_1, f4_1, trivial⟩
    obtain ⟨ws_6, e_ws_6⟩ : ∃ z, z = ws.set k_1 (h0, .inr (2, [.ref r0_1, .int c1_1, .int c2_1, .int r_4, .int c4_1, .int c5_1, .int c6_1, .ref r7_1, .int c8_1, .int c9_1, .long l10_1, .int c11_1])) := ⟨_, rfl⟩
    have hP : va_P (gD g) cl0 ws_6 H := by rw [e_ws_6]; exact hP
    have hD : va_D A ws_6 := by rw [e_ws_6]; exact hD
    have E_7 : gE ws ws_6 := gE_set e_ws_6 hk_1 (cw_o (fi := 3) (v := .int r_4) rfl (by decide))
    have hG : Good g ws_6 := Good_set (fi := 3) (v := .int r_4) e_ws_6 hk_1 E_7 rfl hV9 hG (ivX2 hi_5)
    have Fr_8 : gF [(2, 3)] [] (some h0) ws ws_6 := gF_put (fi := 3) (v := .int r_4) e_ws_6 hk_1 rfl (by decide)
    have hkN := gset_self e_ws_6 hk_1
    have hk_2 := gset_ob e_ws_6 hk_1 hk_2 (by decide)
    have hk_1 := hkN
    have o_h0 := E_7.1 _ _ o_h0
    have o_r0_1 := E_7.1 _ _ o_r0_1
    have a_r7_1 := E_7.1 _ _ a_r7_1
    have a_r0_2 := E_7.1 _ _ a_r0_2
    have a_r4_2 := E_7.1 _ _ a_r4_2
    have a_r9_2 := E_7.1 _ _ a_r9_2
    have a_r10_2 := E_7.1 _ _ a_r10_2
    have a_r11_2 := E_7.1 _ _ a_r11_2
    refine lv_aload_n hx hb dX2_lookAt_36 rfl (lv_at hl 1 rfl) ?_
    refine lv_aload_n hx hb dX2_lookAt_37 rfl (lv_at hl 1 rfl) ?_
    refine va_get (D := gD g) (ci := 2) (v := .ref r0_1) (C := RX2) (T := TX2) (N := 12) hx hb hts inX2 hown hK hP k_1 hk_1 rfl 0 (by decide) (hts _ kw_632) (fun _ h9 => h9) rfl dX2_lookAt_38 ?_
    refine lv_iload_n hx hb dX2_lookAt_41 rfl (lv_at hl 0 rfl) ?_
    refine lv_iconst (v := 2) hx hb dX2_lookAt_42 (by decide) ?_
    refine lv_iadd hx hb dX2_lookAt_43 ?_
    refine lv_topi (fun z_9 ez_9 => ?_)
    obtain rfl : z_9 = 2 := ez_9.trans (by decide)
    have hFc := gfree hD hS hA
    refine va_calli (va_runV (As := [.int 2]) (rest := [.ref h0]) ⟨hx, hb, hml, hown, hts⟩ (m_X7_u2 l g H.size ws_6 r0_1 (2) hG o_r0_1) (cwV 1 hts (gd_V kw_651 kw_1450 kw_1451 kw_710 kw_1449) rfl rfl rfl (by decide +kernel) ⟨Nat.le_of_ble_eq_true rfl, Nat.le_of_ble_eq_true rfl⟩) ⟨gblind, va_recv hK hP (ci := 6) (q0 := k_2) rfl hk_2, fun U hU hW9 => gmk hU hW9 hP hK hD hex hE hS hFc⟩ rfl rfl hl.1 rfl (lv_room (Nat.le_of_ble_eq_true rfl)) dX2_lookAt_44 ⟨Nat.le_of_ble_eq_true rfl, Nat.le_of_ble_eq_true rfl⟩) hS (fun q _ h => hFc q h) hFc (fun r_10 u9 t9 H1 locs ht9 hvm9 hw9 hB9 hz9 hk9 hS => ?_)
    have hP : va_P (gD g) cl0 ws_6 H1 := by rw [← ht9]; exact hB9.1
    have h_r_10 := hw9
    clear hB9 hz9 hk9 hvm9 ht9 hw9
    generalize H1 = H at hP hS ⊢
    have hV9 : okv ws_6 2 4 (.int r_10) := okv_i
    refine va_put (D := gD g) (ci := 2) (v := .int r_10) (ty := .int) (C := RX2) (T := TX2) (N := 12) hx hb hts inX2 tyX2 tyX2_ok nmX2 hown hK hP hD hS k_1 hk_1 rfl 4 (by decide) (hts _ kw_742) (fun _ h9 => h9) rfl (by decide +kernel) rfl rfl (Nat.le_of_ble_eq_true rfl) dX2_lookAt_47 (fun H locs hP hD hS => ?_)
    have hi_11 : invX2 g ws_6 h0 [.ref r0_1, .int c1_1, .int c2_1, .int r_4, .int r_10, .int c5_1, .int c6_1, .ref r7_1, .int c8_1, .int c9_1, .long l10_1, .int c11_1] := ⟨r0_1, (c1_1), (c2_1), (r_4), (r_10), (c5_1), (c6_1), r7_1, (n7_1), (c8_1), (c9_1), (l10_1), (c11_1), rfl, o_r0_1, a_r7_1, f2_1, f3_1, f4_1, trivial⟩
    obtain ⟨ws_12, e_ws_12⟩ : ∃ z, z = ws_6.set k_1 (h0, .inr (2, [.ref r0_1, .int c1_1, .int c2_1, .int r_4, .int r_10, .int c5_1, .int c6_1, .ref r7_1, .int c8_1, .int c9_1, .long l10_1, .int c11_1])) := ⟨_, rfl⟩
    have hP : va_P (gD g) cl0 ws_12 H := by rw [e_ws_12]; exact hP
    have hD : va_D A ws_12 := by rw [e_ws_12]; exact hD
    have E_13 : gE ws_6 ws_12 := gE_set e_ws_12 hk_1 (cw_o (fi := 4) (v := .int r_10) rfl (by decide))
    have hG : Good g ws_12 := Good_set (fi := 4) (v := .int r_10) e_ws_12 hk_1 E_13 rfl hV9 hG (ivX2 hi_11)
    have Fr_14 : gF [(2, 4)] [] (some h0) ws_6 ws_12 := gF_put (fi := 4) (v := .int r_10) e_ws_12 hk_1 rfl (by decide)
    have hkN := gset_self e_ws_12 hk_1
    have hk_2 := gset_ob e_ws_12 hk_1 hk_2 (by decide)
    have hk_1 := hkN
    have o_h0 := E_13.1 _ _ o_h0
    have o_r0_1 := E_13.1 _ _ o_r0_1
    have a_r7_1 := E_13.1 _ _ a_r7_1
    have a_r0_2 := E_13.1 _ _ a_r0_2
    have a_r4_2 := E_13.1 _ _ a_r4_2
    have a_r9_2 := E_13.1 _ _ a_r9_2
    have a_r10_2 := E_13.1 _ _ a_r10_2
    have a_r11_2 := E_13.1 _ _ a_r11_2
    refine lv_aload_n hx hb dX2_lookAt_50 rfl (lv_at hl 1 rfl) ?_
    refine lv_aload_n hx hb dX2_lookAt_51 rfl (lv_at hl 1 rfl) ?_
    refine va_get (D := gD g) (ci := 2) (v := .ref r0_1) (C := RX2) (T := TX2) (N := 12) hx hb hts inX2 hown hK hP k_1 hk_1 rfl 0 (by decide) (hts _ kw_632) (fun _ h9 => h9) rfl dX2_lookAt_52 ?_
    refine lv_iload_n hx hb dX2_lookAt_55 rfl (lv_at hl 0 rfl) ?_
    refine lv_iconst (v := 4) hx hb dX2_lookAt_56 (by decide) ?_
    refine lv_iadd hx hb dX2_lookAt_57 ?_
    refine lv_topi (fun z_15 ez_15 => ?_)
    obtain rfl : z_15 = 4 := ez_15.trans (by decide)
    have hFc := gfree hD hS hA
    refine va_calli (va_runV (As := [.int 4]) (rest := [.ref h0]) ⟨hx, hb, hml, hown, hts⟩ (m_X7_s4_x l g H.size ws_12 r0_1 (4) hG o_r0_1) (cwV 1 hts (gd_V kw_634 kw_1429 kw_1430 kw_710 kw_1428) rfl rfl rfl (by decide +kernel) ⟨Nat.le_of_ble_eq_true rfl, Nat.le_of_ble_eq_true rfl⟩) ⟨gblind, va_recv hK hP (ci := 6) (q0 := k_2) rfl hk_2, fun U hU hW9 => gmk hU hW9 hP hK hD hex hE hS hFc⟩ rfl rfl hl.1 rfl (lv_room (Nat.le_of_ble_eq_true rfl)) dX2_lookAt_58 ⟨Nat.le_of_ble_eq_true rfl, Nat.le_of_ble_eq_true rfl⟩) hS (fun q _ h => hFc q h) hFc (fun r_16 u9 t9 H1 locs ht9 hvm9 hw9 hB9 hz9 hk9 hS => ?_)
    have hP : va_P (gD g) cl0 ws_12 H1 := by rw [← ht9]; exact hB9.1
    obtain ⟨hw9, xp_17⟩ := hw9
    clear hB9 hz9 hk9 hvm9 ht9 hw9
    generalize H1 = H at hP hS ⊢
    refine lv_sipush (v := 1200) hx hb dX2_lookAt_61 (by decide) ?_
    refine va_mmin hx hb (by rw [hml]; exact hl.1.symm) hown (hts _ kw_743) (hts _ kw_1750) (hts _ kw_1748) (hts _ kw_1749) (Nat.le_of_ble_eq_true rfl) (Nat.le_of_ble_eq_true rfl) (Nat.le_of_ble_eq_true rfl) (Nat.le_of_ble_eq_true rfl) dX2_lookAt_64 ?_
    refine lv_topi (fun z_18 ez_18 => ?_)
    have hV9 : okv ws_12 2 2 (.int z_18) := okv_i
    refine va_put (D := gD g) (ci := 2) (v := .int z_18) (ty := .int) (C := RX2) (T := TX2) (N := 12) hx hb hts inX2 tyX2 tyX2_ok nmX2 hown hK hP hD hS k_1 hk_1 rfl 2 (by decide) (hts _ kw_716) (fun _ h9 => h9) rfl (by decide +kernel) rfl rfl (Nat.le_of_ble_eq_true rfl) dX2_lookAt_67 (fun H locs hP hD hS => ?_)
    have f_19 : z_18.toInt ≤ 1200 := (by have e1200 : (1200 : Int32).toInt = 1200 := (by decide); have q_z_18 := i_min ez_18; have g_r_16 := i_rg r_16; have g_z_18 := i_rg z_18; omega)
    have hi_20 : invX2 g ws_12 h0 [.ref r0_1, .int c1_1, .int z_18, .int r_4, .int r_10, .int c5_1, .int c6_1, .ref r7_1, .int c8_1, .int c9_1, .long l10_1, .int c11_1] := ⟨r0_1, (c1_1), (z_18), (r_4), (r_10), (c5_1), (c6_1), r7_1, (n7_1), (c8_1), (c9_1), (l10_1), (c11_1), rfl, o_r0_1, a_r7_1, f2_1, f3_1, f_19, trivial⟩
    obtain ⟨ws_21, e_ws_21⟩ : ∃ z, z = ws_12.set k_1 (h0, .inr (2, [.ref r0_1, .int c1_1, .int z_18, .int r_4, .int r_10, .int c5_1, .int c6_1, .ref r7_1, .int c8_1, .int c9_1, .long l10_1, .int c11_1])) := ⟨_, rfl⟩
    have hP : va_P (gD g) cl0 ws_21 H := by rw [e_ws_21]; exact hP
    have hD : va_D A ws_21 := by rw [e_ws_21]; exact hD
    have E_22 : gE ws_12 ws_21 := gE_set e_ws_21 hk_1 (cw_o (fi := 2) (v := .int z_18) rfl (by decide))
    have hG : Good g ws_21 := Good_set (fi := 2) (v := .int z_18) e_ws_21 hk_1 E_22 rfl hV9 hG (ivX2 hi_20)
    have Fr_23 : gF [(2, 2)] [] (some h0) ws_12 ws_21 := gF_put (fi := 2) (v := .int z_18) e_ws_21 hk_1 rfl (by decide)
    have hkN := gset_self e_ws_21 hk_1
    have hk_2 := gset_ob e_ws_21 hk_1 hk_2 (by decide)
    have hk_1 := hkN
    have o_h0 := E_22.1 _ _ o_h0
    have o_r0_1 := E_22.1 _ _ o_r0_1
    have a_r7_1 := E_22.1 _ _ a_r7_1
    have a_r0_2 := E_22.1 _ _ a_r0_2
    have a_r4_2 := E_22.1 _ _ a_r4_2
    have a_r9_2 := E_22.1 _ _ a_r9_2
    have a_r10_2 := E_22.1 _ _ a_r10_2
    have a_r11_2 := E_22.1 _ _ a_r11_2
    refine lv_aload_n hx hb dX2_lookAt_70 rfl (lv_at hl 1 rfl) ?_
    refine lv_iload_n hx hb dX2_lookAt_71 rfl (lv_at hl 0 rfl) ?_
    refine lv_bipush (v := 8) hx hb dX2_lookAt_72 (by decide) ?_
    refine lv_iadd hx hb dX2_lookAt_74 ?_
    refine lv_topi (fun z_24 ez_24 => ?_)
    obtain rfl : z_24 = 8 := ez_24.trans (by decide)
    have hV9 : okv ws_21 2 1 (.int 8) := okv_i
    refine va_put (D := gD g) (ci := 2) (v := .int 8) (ty := .int) (C := RX2) (T := TX2) (N := 12) hx hb hts inX2 tyX2 tyX2_ok nmX2 hown hK hP hD hS k_1 hk_1 rfl 1 (by decide) (hts _ kw_718) (fun _ h9 => h9) rfl (by decide +kernel) rfl rfl (Nat.le_of_ble_eq_true rfl) dX2_lookAt_75 (fun H locs hP hD hS => ?_)
    have hi_25 : invX2 g ws_21 h0 [.ref r0_1, .int 8, .int z_18, .int r_4, .int r_10, .int c5_1, .int c6_1, .ref r7_1, .int c8_1, .int c9_1, .long l10_1, .int c11_1] := ⟨r0_1, (8), (z_18), (r_4), (r_10), (c5_1), (c6_1), r7_1, (n7_1), (c8_1), (c9_1), (l10_1), (c11_1), rfl, o_r0_1, a_r7_1, f2_1, f3_1, f_19, trivial⟩
    obtain ⟨ws_26, e_ws_26⟩ : ∃ z, z = ws_21.set k_1 (h0, .inr (2, [.ref r0_1, .int 8, .int z_18, .int r_4, .int r_10, .int c5_1, .int c6_1, .ref r7_1, .int c8_1, .int c9_1, .long l10_1, .int c11_1])) := ⟨_, rfl⟩
    have hP : va_P (gD g) cl0 ws_26 H := by rw [e_ws_26]; exact hP
    have hD : va_D A ws_26 := by rw [e_ws_26]; exact hD
    have E_27 : gE ws_21 ws_26 := gE_set e_ws_26 hk_1 (cw_o (fi := 1) (v := .int 8) rfl (by decide))
    have hG : Good g ws_26 := Good_set (fi := 1) (v := .int 8) e_ws_26 hk_1 E_27 rfl hV9 hG (ivX2 hi_25)
    have Fr_28 : gF [(2, 1)] [] (some h0) ws_21 ws_26 := gF_put (fi := 1) (v := .int 8) e_ws_26 hk_1 rfl (by decide)
    have hkN := gset_self e_ws_26 hk_1
    have hk_2 := gset_ob e_ws_26 hk_1 hk_2 (by decide)
    have hk_1 := hkN
    have o_h0 := E_27.1 _ _ o_h0
    have o_r0_1 := E_27.1 _ _ o_r0_1
    have a_r7_1 := E_27.1 _ _ a_r7_1
    have a_r0_2 := E_27.1 _ _ a_r0_2
    have a_r4_2 := E_27.1 _ _ a_r4_2
    have a_r9_2 := E_27.1 _ _ a_r9_2
    have a_r10_2 := E_27.1 _ _ a_r10_2
    have a_r11_2 := E_27.1 _ _ a_r11_2
    refine lv_aload_n hx hb dX2_lookAt_78 rfl (lv_at hl 1 rfl) ?_
    refine lv_aload_n hx hb dX2_lookAt_79 rfl (lv_at hl 1 rfl) ?_
    refine va_get (D := gD g) (ci := 2) (v := .int 8) (C := RX2) (T := TX2) (N := 12) hx hb hts inX2 hown hK hP k_1 hk_1 rfl 1 (by decide) (hts _ kw_718) (fun _ h9 => h9) rfl dX2_lookAt_80 ?_
    refine lv_aload_n hx hb dX2_lookAt_83 rfl (lv_at hl 1 rfl) ?_
    refine va_get (D := gD g) (ci := 2) (v := .int z_18) (C := RX2) (T := TX2) (N := 12) hx hb hts inX2 hown hK hP k_1 hk_1 rfl 2 (by decide) (hts _ kw_716) (fun _ h9 => h9) rfl dX2_lookAt_84 ?_
    refine lv_iadd hx hb dX2_lookAt_87 ?_
    refine lv_topi (fun z_29 ez_29 => ?_)
    refine lv_iconst (v := 2) hx hb dX2_lookAt_88 (by decide) ?_
    refine lv_iadd hx hb dX2_lookAt_89 ?_
    refine lv_topi (fun z_30 ez_30 => ?_)
    have hV9 : okv ws_26 2 5 (.int z_30) := okv_i
    refine va_put (D := gD g) (ci := 2) (v := .int z_30) (ty := .int) (C := RX2) (T := TX2) (N := 12) hx hb hts inX2 tyX2 tyX2_ok nmX2 hown hK hP hD hS k_1 hk_1 rfl 5 (by decide) (hts _ kw_744) (fun _ h9 => h9) rfl (by decide +kernel) rfl rfl (Nat.le_of_ble_eq_true rfl) dX2_lookAt_90 (fun H locs hP hD hS => ?_)
    have hi_31 : invX2 g ws_26 h0 [.ref r0_1, .int 8, .int z_18, .int r_4, .int r_10, .int z_30, .int c6_1, .ref r7_1, .int c8_1, .int c9_1, .long l10_1, .int c11_1] := ⟨r0_1, (8), (z_18), (r_4), (r_10), (z_30), (c6_1), r7_1, (n7_1), (c8_1), (c9_1), (l10_1), (c11_1), rfl, o_r0_1, a_r7_1, f2_1, f3_1, f_19, trivial⟩
    obtain ⟨ws_32, e_ws_32⟩ : ∃ z, z = ws_26.set k_1 (h0, .inr (2, [.ref r0_1, .int 8, .int z_18, .int r_4, .int r_10, .int z_30, .int c6_1, .ref r7_1, .int c8_1, .int c9_1, .long l10_1, .int c11_1])) := ⟨_, rfl⟩
    have hP : va_P (gD g) cl0 ws_32 H := by rw [e_ws_32]; exact hP
    have hD : va_D A ws_32 := by rw [e_ws_32]; exact hD
    have E_33 : gE ws_26 ws_32 := gE_set e_ws_32 hk_1 (cw_o (fi := 5) (v := .int z_30) rfl (by decide))
    have hG : Good g ws_32 := Good_set (fi := 5) (v := .int z_30) e_ws_32 hk_1 E_33 rfl hV9 hG (ivX2 hi_31)
    have Fr_34 : gF [(2, 5)] [] (some h0) ws_26 ws_32 := gF_put (fi := 5) (v := .int z_30) e_ws_32 hk_1 rfl (by decide)
    have hkN := gset_self e_ws_32 hk_1
    have hk_2 := gset_ob e_ws_32 hk_1 hk_2 (by decide)
    have hk_1 := hkN
    have o_h0 := E_33.1 _ _ o_h0
    have o_r0_1 := E_33.1 _ _ o_r0_1
    have a_r7_1 := E_33.1 _ _ a_r7_1
    have a_r0_2 := E_33.1 _ _ a_r0_2
    have a_r4_2 := E_33.1 _ _ a_r4_2
    have a_r9_2 := E_33.1 _ _ a_r9_2
    have a_r10_2 := E_33.1 _ _ a_r10_2
    have a_r11_2 := E_33.1 _ _ a_r11_2
    refine lv_aload_n hx hb dX2_lookAt_93 rfl (lv_at hl 1 rfl) ?_
    refine lv_aload_n hx hb dX2_lookAt_94 rfl (lv_at hl 1 rfl) ?_
    refine va_get (D := gD g) (ci := 2) (v := .ref r0_1) (C := RX2) (T := TX2) (N := 12) hx hb hts inX2 hown hK hP k_1 hk_1 rfl 0 (by decide) (hts _ kw_632) (fun _ h9 => h9) rfl dX2_lookAt_95 ?_
    refine lv_aload_n hx hb dX2_lookAt_98 rfl (lv_at hl 1 rfl) ?_
    refine va_get (D := gD g) (ci := 2) (v := .int 8) (C := RX2) (T := TX2) (N := 12) hx hb hts inX2 hown hK hP k_1 hk_1 rfl 1 (by decide) (hts _ kw_718) (fun _ h9 => h9) rfl dX2_lookAt_99 ?_
    refine lv_aload_n hx hb dX2_lookAt_102 rfl (lv_at hl 1 rfl) ?_
    refine va_get (D := gD g) (ci := 2) (v := .int z_18) (C := RX2) (T := TX2) (N := 12) hx hb hts inX2 hown hK hP k_1 hk_1 rfl 2 (by decide) (hts _ kw_716) (fun _ h9 => h9) rfl dX2_lookAt_103 ?_
    refine lv_iadd hx hb dX2_lookAt_106 ?_
    refine lv_topi (fun z_35 ez_35 => ?_)
    have hFc := gfree hD hS hA
    refine va_calli (va_runV (As := [.int z_35]) (rest := [.ref h0]) ⟨hx, hb, hml, hown, hts⟩ (m_X7_u2 l g H.size ws_32 r0_1 (z_35) hG o_r0_1) (cwV 1 hts (gd_V kw_651 kw_1450 kw_1451 kw_710 kw_1449) rfl rfl rfl (by decide +kernel) ⟨Nat.le_of_ble_eq_true rfl, Nat.le_of_ble_eq_true rfl⟩) ⟨gblind, va_recv hK hP (ci := 6) (q0 := k_2) rfl hk_2, fun U hU hW9 => gmk hU hW9 hP hK hD hex hE hS hFc⟩ rfl rfl hl.1 rfl (lv_room (Nat.le_of_ble_eq_true rfl)) dX2_lookAt_107 ⟨Nat.le_of_ble_eq_true rfl, Nat.le_of_ble_eq_true rfl⟩) hS (fun q _ h => hFc q h) hFc (fun r_36 u9 t9 H1 locs ht9 hvm9 hw9 hB9 hz9 hk9 hS => ?_)
    have hP : va_P (gD g) cl0 ws_32 H1 := by rw [← ht9]; exact hB9.1
    have h_r_36 := hw9
    clear hB9 hz9 hk9 hvm9 ht9 hw9
    generalize H1 = H at hP hS ⊢
    have hV9 : okv ws_32 2 6 (.int r_36) := okv_i
    refine va_put (D := gD g) (ci := 2) (v := .int r_36) (ty := .int) (C := RX2) (T := TX2) (N := 12) hx hb hts inX2 tyX2 tyX2_ok nmX2 hown hK hP hD hS k_1 hk_1 rfl 6 (by decide) (hts _ kw_745) (fun _ h9 => h9) rfl (by decide +kernel) rfl rfl (Nat.le_of_ble_eq_true rfl) dX2_lookAt_110 (fun H locs hP hD hS => ?_)
    have hi_37 : invX2 g ws_32 h0 [.ref r0_1, .int 8, .int z_18, .int r_4, .int r_10, .int z_30, .int r_36, .ref r7_1, .int c8_1, .int c9_1, .long l10_1, .int c11_1] := ⟨r0_1, (8), (z_18), (r_4), (r_10), (z_30), (r_36), r7_1, (n7_1), (c8_1), (c9_1), (l10_1), (c11_1), rfl, o_r0_1, a_r7_1, f2_1, f3_1, f_19, trivial⟩
    obtain ⟨ws_38, e_ws_38⟩ : ∃ z, z = ws_32.set k_1 (h0, .inr (2, [.ref r0_1, .int 8, .int z_18, .int r_4, .int r_10, .int z_30, .int r_36, .ref r7_1, .int c8_1, .int c9_1, .long l10_1, .int c11_1])) := ⟨_, rfl⟩
    have hP : va_P (gD g) cl0 ws_38 H := by rw [e_ws_38]; exact hP
    have hD : va_D A ws_38 := by rw [e_ws_38]; exact hD
    have E_39 : gE ws_32 ws_38 := gE_set e_ws_38 hk_1 (cw_o (fi := 6) (v := .int r_36) rfl (by decide))
    have hG : Good g ws_38 := Good_set (fi := 6) (v := .int r_36) e_ws_38 hk_1 E_39 rfl hV9 hG (ivX2 hi_37)
    have Fr_40 : gF [(2, 6)] [] (some h0) ws_32 ws_38 := gF_put (fi := 6) (v := .int r_36) e_ws_38 hk_1 rfl (by decide)
    have hkN := gset_self e_ws_38 hk_1
    have hk_2 := gset_ob e_ws_38 hk_1 hk_2 (by decide)
    have hk_1 := hkN
    have o_h0 := E_39.1 _ _ o_h0
    have o_r0_1 := E_39.1 _ _ o_r0_1
    have a_r7_1 := E_39.1 _ _ a_r7_1
    have a_r0_2 := E_39.1 _ _ a_r0_2
    have a_r4_2 := E_39.1 _ _ a_r4_2
    have a_r9_2 := E_39.1 _ _ a_r9_2
    have a_r10_2 := E_39.1 _ _ a_r10_2
    have a_r11_2 := E_39.1 _ _ a_r11_2
    refine W.widen (k := 0) (n := 0) (Nat.le_of_ble_eq_true rfl) (Nat.le_of_ble_eq_true rfl) ?_
    exact W.vret hx hb hr (fun t9 ht9 hW9 => ⟨⟨ws_38, rfl, ⟨(gP_of hD hk_1 (fun q90 e90 => by cases e90; exact (by have q_r_36 := h_r_36; have g_r_36 := i_rg r_36; omega))), (fun f9 e9 n9 c9 m9 q9 => by have hj : jSt c9 x1 = (0 : Int32) := (by unfold jSt; rw [if_pos (by have e0 : (0 : Int32).toInt = 0 := (by decide); have q_c_3 := i_lt c_3; have g_x1 := i_rg x1; omega)]); have hcd : jSt c9 x1 + 8 = (8 : Int32) := (by rw [hj]; decide); have hsz : jSz f9 e9 n9 (jSt c9 x1) = z_18 := (by have y9 := xp_17 _ _ _ (vw_mo ((gF.tr (gF.mo (F' := [(2, 3), (2, 4)]) (C' := []) (S' := none) Fr_8 (by decide) (fun _ h => h) (Or.inl rfl)) (gF.mo (F' := [(2, 3), (2, 4)]) (C' := []) (S' := none) Fr_14 (by decide) (fun _ h => h) (Or.inl rfl)))) (by decide) (by decide) (by decide) (vm_vw hD0 hkH rfl q9)); unfold jSz; rw [hj]; rw [show (0 : Int32) + 4 = 4 from by decide]; rw [← y9]; exact ez_18.symm); rw [hcd, hsz]; exact ⟨_, _, _, hk_1, rfl, rfl, rfl, vw_mo ((gF.tr (gF.mo (F' := [(2, 1), (2, 2), (2, 3), (2, 4), (2, 5), (2, 6)]) (C' := []) (S' := none) Fr_8 (by decide) (fun _ h => h) (Or.inl rfl)) (gF.tr (gF.mo (F' := [(2, 1), (2, 2), (2, 3), (2, 4), (2, 5), (2, 6)]) (C' := []) (S' := none) Fr_14 (by decide) (fun _ h => h) (Or.inl rfl)) (gF.tr (gF.mo (F' := [(2, 1), (2, 2), (2, 3), (2, 4), (2, 5), (2, 6)]) (C' := []) (S' := none) Fr_23 (by decide) (fun _ h => h) (Or.inl rfl)) (gF.tr (gF.mo (F' := [(2, 1), (2, 2), (2, 3), (2, 4), (2, 5), (2, 6)]) (C' := []) (S' := none) Fr_28 (by decide) (fun _ h => h) (Or.inl rfl)) (gF.tr (gF.mo (F' := [(2, 1), (2, 2), (2, 3), (2, 4), (2, 5), (2, 6)]) (C' := []) (S' := none) Fr_34 (by decide) (fun _ h => h) (Or.inl rfl)) (gF.mo (F' := [(2, 1), (2, 2), (2, 3), (2, 4), (2, 5), (2, 6)]) (C' := []) (S' := none) Fr_40 (by decide) (fun _ h => h) (Or.inl rfl)))))))) (by decide) (by decide) (by decide) (vm_vw hD0 hkH rfl q9)⟩)⟩, ⟨(E_7.tr (E_13.tr (E_22.tr (E_27.tr (E_33.tr E_39))))), (gF.tr (gF.mo (F' := [(2, 1), (2, 2), (2, 3), (2, 4), (2, 5), (2, 6)]) (C' := []) (S' := none) Fr_8 (by decide) (fun _ h => h) (Or.inl rfl)) (gF.tr (gF.mo (F' := [(2, 1), (2, 2), (2, 3), (2, 4), (2, 5), (2, 6)]) (C' := []) (S' := none) Fr_14 (by decide) (fun _ h => h) (Or.inl rfl)) (gF.tr (gF.mo (F' := [(2, 1), (2, 2), (2, 3), (2, 4), (2, 5), (2, 6)]) (C' := []) (S' := none) Fr_23 (by decide) (fun _ h => h) (Or.inl rfl)) (gF.tr (gF.mo (F' := [(2, 1), (2, 2), (2, 3), (2, 4), (2, 5), (2, 6)]) (C' := []) (S' := none) Fr_28 (by decide) (fun _ h => h) (Or.inl rfl)) (gF.tr (gF.mo (F' := [(2, 1), (2, 2), (2, 3), (2, 4), (2, 5), (2, 6)]) (C' := []) (S' := none) Fr_34 (by decide) (fun _ h => h) (Or.inl rfl)) (gF.mo (F' := [(2, 1), (2, 2), (2, 3), (2, 4), (2, 5), (2, 6)]) (C' := []) (S' := none) Fr_40 (by decide) (fun _ h => h) (Or.inl rfl))))))), hG, by rw [ht9]; exact hP, hD⟩⟩, hS.F ht9⟩) hS.2.2 dX2_lookAt_113
  · refine lv_iload_n hx hb dX2_lookAt_4 rfl (lv_at hl 1 rfl) ?_
    refine lv_bipush (v := 24) hx hb dX2_lookAt_5 (by decide) ?_
    refine lv_icmp_lt (tgt := 14) hx hb dX2_lookAt_7 (by decide) (fun c_41 => ?_) (fun c_41 => ?_)
    · refine lv_aload_n hx hb dX2_lookAt_14 rfl (lv_at hl 0 rfl) ?_
      refine va_get (D := gD g) (ci := 2) (v := .ref r0_1) (C := RX2) (T := TX2) (N := 12) hx hb hts inX2 hown hK hP k_1 hk_1 rfl 0 (by decide) (hts _ kw_632) (fun _ h9 => h9) rfl dX2_lookAt_15 ?_
      refine va_get (D := gD g) (ci := 6) (v := .ref r10_2) (C := RX7) (T := TX7) (N := 17) hx hb hts inX7 hown hK hP k_2 hk_2 rfl 10 (by decide) (hts _ kw_731) (fun _ h9 => h9) rfl dX2_lookAt_18 ?_
      refine lv_iload_n hx hb dX2_lookAt_21 rfl (lv_at hl 1 rfl) ?_
      obtain ⟨k_42, f_42, hk_42⟩ := gI_of a_r10_2
      refine va_iald hx hb hK hP k_42 1 hk_42 rfl (i_in2 (by have e0 : (0 : Int32).toInt = 0 := (by decide); have e24 : (24 : Int32).toInt = 24 := (by decide); have q_f7_2 := f7_2; have q_f13_2 := f13_2; have q_c_3 := i_nlt c_3; have q_c_41 := i_lt c_41; have g_x1 := i_rg x1; omega)) dX2_lookAt_22 ?_
      refine lv_topi (fun z_43 ez_43 => ?_)
      have hkC := hk_42
      refine lv_istore_n (lv' := [(2, .int z_43), (0, .ref h0), (1, .int x1)]) hx hb dX2_lookAt_23 rfl hl (by decide) rfl (fun ls hl => ?_)
      refine lv_aload_n hx hb dX2_lookAt_24 rfl (lv_at hl 1 rfl) ?_
      refine lv_aload_n hx hb dX2_lookAt_25 rfl (lv_at hl 1 rfl) ?_
      refine va_get (D := gD g) (ci := 2) (v := .ref r0_1) (C := RX2) (T := TX2) (N := 12) hx hb hts inX2 hown hK hP k_1 hk_1 rfl 0 (by decide) (hts _ kw_632) (fun _ h9 => h9) rfl dX2_lookAt_26 ?_
      refine lv_iload_n hx hb dX2_lookAt_29 rfl (lv_at hl 0 rfl) ?_
      have hFc := gfree hD hS hA
      refine va_calli (va_runV (As := [.int z_43]) (rest := [.ref h0]) ⟨hx, hb, hml, hown, hts⟩ (m_X7_u2 l g s.heap.size ws r0_1 (z_43) hG o_r0_1) (cwV 1 hts (gd_V kw_651 kw_1450 kw_1451 kw_710 kw_1449) rfl rfl rfl (by decide +kernel) ⟨Nat.le_of_ble_eq_true rfl, Nat.le_of_ble_eq_true rfl⟩) ⟨gblind, va_recv hK hP (ci := 6) (q0 := k_2) rfl hk_2, fun U hU hW9 => gmk hU hW9 hP hK hD hex hE hS hFc⟩ rfl rfl hl.1 rfl (lv_room (Nat.le_of_ble_eq_true rfl)) dX2_lookAt_30 ⟨Nat.le_of_ble_eq_true rfl, Nat.le_of_ble_eq_true rfl⟩) hS (fun q _ h => hFc q h) hFc (fun r_44 u9 t9 H1 locs ht9 hvm9 hw9 hB9 hz9 hk9 hS => ?_)
      have hP : va_P (gD g) cl0 ws H1 := by rw [← ht9]; exact hB9.1
      have h_r_44 := hw9
      clear hB9 hz9 hk9 hvm9 ht9 hw9
      generalize H1 = H at hP hS ⊢
      have hV9 : okv ws 2 3 (.int r_44) := okv_i
      refine va_put (D := gD g) (ci := 2) (v := .int r_44) (ty := .int) (C := RX2) (T := TX2) (N := 12) hx hb hts inX2 tyX2 tyX2_ok nmX2 hown hK hP hD hS k_1 hk_1 rfl 3 (by decide) (hts _ kw_741) (fun _ h9 => h9) rfl (by decide +kernel) rfl rfl (Nat.le_of_ble_eq_true rfl) dX2_lookAt_33 (fun H locs hP hD hS => ?_)
      have hi_45 : invX2 g ws h0 [.ref r0_1, .int c1_1, .int c2_1, .int r_44, .int c4_1, .int c5_1, .int c6_1, .ref r7_1, .int c8_1, .int c9_1, .long l10_1, .int c11_1] := ⟨r0_1, (c1_1), (c2_1), (r_44), (c4_1), (c5_1), (c6_1), r7_1, (n7_1), (c8_1), (c9_1), (l10_1), (c11_1), rfl, o_r0_1, a_r7_1, f2_1, f3_1, f4_1, trivial⟩
      obtain ⟨ws_46, e_ws_46⟩ : ∃ z, z = ws.set k_1 (h0, .inr (2, [.ref r0_1, .int c1_1, .int c2_1, .int r_44, .int c4_1, .int c5_1, .int c6_1, .ref r7_1, .int c8_1, .int c9_1, .long l10_1, .int c11_1])) := ⟨_, rfl⟩
      have hP : va_P (gD g) cl0 ws_46 H := by rw [e_ws_46]; exact hP
      have hD : va_D A ws_46 := by rw [e_ws_46]; exact hD
      have E_47 : gE ws ws_46 := gE_set e_ws_46 hk_1 (cw_o (fi := 3) (v := .int r_44) rfl (by decide))
      have hG : Good g ws_46 := Good_set (fi := 3) (v := .int r_44) e_ws_46 hk_1 E_47 rfl hV9 hG (ivX2 hi_45)
      have Fr_48 : gF [(2, 3)] [] (some h0) ws ws_46 := gF_put (fi := 3) (v := .int r_44) e_ws_46 hk_1 rfl (by decide)
      have hkN := gset_self e_ws_46 hk_1
      have hk_2 := gset_ob e_ws_46 hk_1 hk_2 (by decide)
      have hk_42 := gset_obI e_ws_46 hk_1 hk_42
      have hk_1 := hkN
      have o_h0 := E_47.1 _ _ o_h0
      have o_r0_1 := E_47.1 _ _ o_r0_1
      have a_r7_1 := E_47.1 _ _ a_r7_1
      have a_r0_2 := E_47.1 _ _ a_r0_2
      have a_r4_2 := E_47.1 _ _ a_r4_2
      have a_r9_2 := E_47.1 _ _ a_r9_2
      have a_r10_2 := E_47.1 _ _ a_r10_2
      have a_r11_2 := E_47.1 _ _ a_r11_2
      refine lv_aload_n hx hb dX2_lookAt_36 rfl (lv_at hl 1 rfl) ?_
      refine lv_aload_n hx hb dX2_lookAt_37 rfl (lv_at hl 1 rfl) ?_
      refine va_get (D := gD g) (ci := 2) (v := .ref r0_1) (C := RX2) (T := TX2) (N := 12) hx hb hts inX2 hown hK hP k_1 hk_1 rfl 0 (by decide) (hts _ kw_632) (fun _ h9 => h9) rfl dX2_lookAt_38 ?_
      refine lv_iload_n hx hb dX2_lookAt_41 rfl (lv_at hl 0 rfl) ?_
      refine lv_iconst (v := 2) hx hb dX2_lookAt_42 (by decide) ?_
      refine lv_iadd hx hb dX2_lookAt_43 ?_
      refine lv_topi (fun z_49 ez_49 => ?_)
      have hFc := gfree hD hS hA
      refine va_calli (va_runV (As := [.int z_49]) (rest := [.ref h0]) ⟨hx, hb, hml, hown, hts⟩ (m_X7_u2 l g H.size ws_46 r0_1 (z_49) hG o_r0_1) (cwV 1 hts (gd_V kw_651 kw_1450 kw_1451 kw_710 kw_1449) rfl rfl rfl (by decide +kernel) ⟨Nat.le_of_ble_eq_true rfl, Nat.le_of_ble_eq_true rfl⟩) ⟨gblind, va_recv hK hP (ci := 6) (q0 := k_2) rfl hk_2, fun U hU hW9 => gmk hU hW9 hP hK hD hex hE hS hFc⟩ rfl rfl hl.1 rfl (lv_room (Nat.le_of_ble_eq_true rfl)) dX2_lookAt_44 ⟨Nat.le_of_ble_eq_true rfl, Nat.le_of_ble_eq_true rfl⟩) hS (fun q _ h => hFc q h) hFc (fun r_50 u9 t9 H1 locs ht9 hvm9 hw9 hB9 hz9 hk9 hS => ?_)
      have hP : va_P (gD g) cl0 ws_46 H1 := by rw [← ht9]; exact hB9.1
      have h_r_50 := hw9
      clear hB9 hz9 hk9 hvm9 ht9 hw9
      generalize H1 = H at hP hS ⊢
      have hV9 : okv ws_46 2 4 (.int r_50) := okv_i
      refine va_put (D := gD g) (ci := 2) (v := .int r_50) (ty := .int) (C := RX2) (T := TX2) (N := 12) hx hb hts inX2 tyX2 tyX2_ok nmX2 hown hK hP hD hS k_1 hk_1 rfl 4 (by decide) (hts _ kw_742) (fun _ h9 => h9) rfl (by decide +kernel) rfl rfl (Nat.le_of_ble_eq_true rfl) dX2_lookAt_47 (fun H locs hP hD hS => ?_)
      have hi_51 : invX2 g ws_46 h0 [.ref r0_1, .int c1_1, .int c2_1, .int r_44, .int r_50, .int c5_1, .int c6_1, .ref r7_1, .int c8_1, .int c9_1, .long l10_1, .int c11_1] := ⟨r0_1, (c1_1), (c2_1), (r_44), (r_50), (c5_1), (c6_1), r7_1, (n7_1), (c8_1), (c9_1), (l10_1), (c11_1), rfl, o_r0_1, a_r7_1, f2_1, f3_1, f4_1, trivial⟩
      obtain ⟨ws_52, e_ws_52⟩ : ∃ z, z = ws_46.set k_1 (h0, .inr (2, [.ref r0_1, .int c1_1, .int c2_1, .int r_44, .int r_50, .int c5_1, .int c6_1, .ref r7_1, .int c8_1, .int c9_1, .long l10_1, .int c11_1])) := ⟨_, rfl⟩
      have hP : va_P (gD g) cl0 ws_52 H := by rw [e_ws_52]; exact hP
      have hD : va_D A ws_52 := by rw [e_ws_52]; exact hD
      have E_53 : gE ws_46 ws_52 := gE_set e_ws_52 hk_1 (cw_o (fi := 4) (v := .int r_50) rfl (by decide))
      have hG : Good g ws_52 := Good_set (fi := 4) (v := .int r_50) e_ws_52 hk_1 E_53 rfl hV9 hG (ivX2 hi_51)
      have Fr_54 : gF [(2, 4)] [] (some h0) ws_46 ws_52 := gF_put (fi := 4) (v := .int r_50) e_ws_52 hk_1 rfl (by decide)
      have hkN := gset_self e_ws_52 hk_1
      have hk_2 := gset_ob e_ws_52 hk_1 hk_2 (by decide)
      have hk_42 := gset_obI e_ws_52 hk_1 hk_42
      have hk_1 := hkN
      have o_h0 := E_53.1 _ _ o_h0
      have o_r0_1 := E_53.1 _ _ o_r0_1
      have a_r7_1 := E_53.1 _ _ a_r7_1
      have a_r0_2 := E_53.1 _ _ a_r0_2
      have a_r4_2 := E_53.1 _ _ a_r4_2
      have a_r9_2 := E_53.1 _ _ a_r9_2
      have a_r10_2 := E_53.1 _ _ a_r10_2
      have a_r11_2 := E_53.1 _ _ a_r11_2
      refine lv_aload_n hx hb dX2_lookAt_50 rfl (lv_at hl 1 rfl) ?_
      refine lv_aload_n hx hb dX2_lookAt_51 rfl (lv_at hl 1 rfl) ?_
      refine va_get (D := gD g) (ci := 2) (v := .ref r0_1) (C := RX2) (T := TX2) (N := 12) hx hb hts inX2 hown hK hP k_1 hk_1 rfl 0 (by decide) (hts _ kw_632) (fun _ h9 => h9) rfl dX2_lookAt_52 ?_
      refine lv_iload_n hx hb dX2_lookAt_55 rfl (lv_at hl 0 rfl) ?_
      refine lv_iconst (v := 4) hx hb dX2_lookAt_56 (by decide) ?_
      refine lv_iadd hx hb dX2_lookAt_57 ?_
      refine lv_topi (fun z_55 ez_55 => ?_)
      have hFc := gfree hD hS hA
      refine va_calli (va_runV (As := [.int z_55]) (rest := [.ref h0]) ⟨hx, hb, hml, hown, hts⟩ (m_X7_s4_x l g H.size ws_52 r0_1 (z_55) hG o_r0_1) (cwV 1 hts (gd_V kw_634 kw_1429 kw_1430 kw_710 kw_1428) rfl rfl rfl (by decide +kernel) ⟨Nat.le_of_ble_eq_true rfl, Nat.le_of_ble_eq_true rfl⟩) ⟨gblind, va_recv hK hP (ci := 6) (q0 := k_2) rfl hk_2, fun U hU hW9 => gmk hU hW9 hP hK hD hex hE hS hFc⟩ rfl rfl hl.1 rfl (lv_room (Nat.le_of_ble_eq_true rfl)) dX2_lookAt_58 ⟨Nat.le_of_ble_eq_true rfl, Nat.le_of_ble_eq_true rfl⟩) hS (fun q _ h => hFc q h) hFc (fun r_56 u9 t9 H1 locs ht9 hvm9 hw9 hB9 hz9 hk9 hS => ?_)
      have hP : va_P (gD g) cl0 ws_52 H1 := by rw [← ht9]; exact hB9.1
      obtain ⟨hw9, xp_57⟩ := hw9
      clear hB9 hz9 hk9 hvm9 ht9 hw9
      generalize H1 = H at hP hS ⊢
      refine lv_sipush (v := 1200) hx hb dX2_lookAt_61 (by decide) ?_
      refine va_mmin hx hb (by rw [hml]; exact hl.1.symm) hown (hts _ kw_743) (hts _ kw_1750) (hts _ kw_1748) (hts _ kw_1749) (Nat.le_of_ble_eq_true rfl) (Nat.le_of_ble_eq_true rfl) (Nat.le_of_ble_eq_true rfl) (Nat.le_of_ble_eq_true rfl) dX2_lookAt_64 ?_
      refine lv_topi (fun z_58 ez_58 => ?_)
      have hV9 : okv ws_52 2 2 (.int z_58) := okv_i
      refine va_put (D := gD g) (ci := 2) (v := .int z_58) (ty := .int) (C := RX2) (T := TX2) (N := 12) hx hb hts inX2 tyX2 tyX2_ok nmX2 hown hK hP hD hS k_1 hk_1 rfl 2 (by decide) (hts _ kw_716) (fun _ h9 => h9) rfl (by decide +kernel) rfl rfl (Nat.le_of_ble_eq_true rfl) dX2_lookAt_67 (fun H locs hP hD hS => ?_)
      have f_59 : z_58.toInt ≤ 1200 := (by have e1200 : (1200 : Int32).toInt = 1200 := (by decide); have q_z_58 := i_min ez_58; have g_r_56 := i_rg r_56; have g_z_58 := i_rg z_58; omega)
      have hi_60 : invX2 g ws_52 h0 [.ref r0_1, .int c1_1, .int z_58, .int r_44, .int r_50, .int c5_1, .int c6_1, .ref r7_1, .int c8_1, .int c9_1, .long l10_1, .int c11_1] := ⟨r0_1, (c1_1), (z_58), (r_44), (r_50), (c5_1), (c6_1), r7_1, (n7_1), (c8_1), (c9_1), (l10_1), (c11_1), rfl, o_r0_1, a_r7_1, f2_1, f3_1, f_59, trivial⟩
      obtain ⟨ws_61, e_ws_61⟩ : ∃ z, z = ws_52.set k_1 (h0, .inr (2, [.ref r0_1, .int c1_1, .int z_58, .int r_44, .int r_50, .int c5_1, .int c6_1, .ref r7_1, .int c8_1, .int c9_1, .long l10_1, .int c11_1])) := ⟨_, rfl⟩
      have hP : va_P (gD g) cl0 ws_61 H := by rw [e_ws_61]; exact hP
      have hD : va_D A ws_61 := by rw [e_ws_61]; exact hD
      have E_62 : gE ws_52 ws_61 := gE_set e_ws_61 hk_1 (cw_o (fi := 2) (v := .int z_58) rfl (by decide))
      have hG : Good g ws_61 := Good_set (fi := 2) (v := .int z_58) e_ws_61 hk_1 E_62 rfl hV9 hG (ivX2 hi_60)
      have Fr_63 : gF [(2, 2)] [] (some h0) ws_52 ws_61 := gF_put (fi := 2) (v := .int z_58) e_ws_61 hk_1 rfl (by decide)
      have hkN := gset_self e_ws_61 hk_1
      have hk_2 := gset_ob e_ws_61 hk_1 hk_2 (by decide)
      have hk_42 := gset_obI e_ws_61 hk_1 hk_42
      have hk_1 := hkN
      have o_h0 := E_62.1 _ _ o_h0
      have o_r0_1 := E_62.1 _ _ o_r0_1
      have a_r7_1 := E_62.1 _ _ a_r7_1
      have a_r0_2 := E_62.1 _ _ a_r0_2
      have a_r4_2 := E_62.1 _ _ a_r4_2
      have a_r9_2 := E_62.1 _ _ a_r9_2
      have a_r10_2 := E_62.1 _ _ a_r10_2
      have a_r11_2 := E_62.1 _ _ a_r11_2
      refine lv_aload_n hx hb dX2_lookAt_70 rfl (lv_at hl 1 rfl) ?_
      refine lv_iload_n hx hb dX2_lookAt_71 rfl (lv_at hl 0 rfl) ?_
      refine lv_bipush (v := 8) hx hb dX2_lookAt_72 (by decide) ?_
      refine lv_iadd hx hb dX2_lookAt_74 ?_
      refine lv_topi (fun z_64 ez_64 => ?_)
      have hV9 : okv ws_61 2 1 (.int z_64) := okv_i
      refine va_put (D := gD g) (ci := 2) (v := .int z_64) (ty := .int) (C := RX2) (T := TX2) (N := 12) hx hb hts inX2 tyX2 tyX2_ok nmX2 hown hK hP hD hS k_1 hk_1 rfl 1 (by decide) (hts _ kw_718) (fun _ h9 => h9) rfl (by decide +kernel) rfl rfl (Nat.le_of_ble_eq_true rfl) dX2_lookAt_75 (fun H locs hP hD hS => ?_)
      have hi_65 : invX2 g ws_61 h0 [.ref r0_1, .int z_64, .int z_58, .int r_44, .int r_50, .int c5_1, .int c6_1, .ref r7_1, .int c8_1, .int c9_1, .long l10_1, .int c11_1] := ⟨r0_1, (z_64), (z_58), (r_44), (r_50), (c5_1), (c6_1), r7_1, (n7_1), (c8_1), (c9_1), (l10_1), (c11_1), rfl, o_r0_1, a_r7_1, f2_1, f3_1, f_59, trivial⟩
      obtain ⟨ws_66, e_ws_66⟩ : ∃ z, z = ws_61.set k_1 (h0, .inr (2, [.ref r0_1, .int z_64, .int z_58, .int r_44, .int r_50, .int c5_1, .int c6_1, .ref r7_1, .int c8_1, .int c9_1, .long l10_1, .int c11_1])) := ⟨_, rfl⟩
      have hP : va_P (gD g) cl0 ws_66 H := by rw [e_ws_66]; exact hP
      have hD : va_D A ws_66 := by rw [e_ws_66]; exact hD
      have E_67 : gE ws_61 ws_66 := gE_set e_ws_66 hk_1 (cw_o (fi := 1) (v := .int z_64) rfl (by decide))
      have hG : Good g ws_66 := Good_set (fi := 1) (v := .int z_64) e_ws_66 hk_1 E_67 rfl hV9 hG (ivX2 hi_65)
      have Fr_68 : gF [(2, 1)] [] (some h0) ws_61 ws_66 := gF_put (fi := 1) (v := .int z_64) e_ws_66 hk_1 rfl (by decide)
      have hkN := gset_self e_ws_66 hk_1
      have hk_2 := gset_ob e_ws_66 hk_1 hk_2 (by decide)
      have hk_42 := gset_obI e_ws_66 hk_1 hk_42
      have hk_1 := hkN
      have o_h0 := E_67.1 _ _ o_h0
      have o_r0_1 := E_67.1 _ _ o_r0_1
      have a_r7_1 := E_67.1 _ _ a_r7_1
      have a_r0_2 := E_67.1 _ _ a_r0_2
      have a_r4_2 := E_67.1 _ _ a_r4_2
      have a_r9_2 := E_67.1 _ _ a_r9_2
      have a_r10_2 := E_67.1 _ _ a_r10_2
      have a_r11_2 := E_67.1 _ _ a_r11_2
      refine lv_aload_n hx hb dX2_lookAt_78 rfl (lv_at hl 1 rfl) ?_
      refine lv_aload_n hx hb dX2_lookAt_79 rfl (lv_at hl 1 rfl) ?_
      refine va_get (D := gD g) (ci := 2) (v := .int z_64) (C := RX2) (T := TX2) (N := 12) hx hb hts inX2 hown hK hP k_1 hk_1 rfl 1 (by decide) (hts _ kw_718) (fun _ h9 => h9) rfl dX2_lookAt_80 ?_
      refine lv_aload_n hx hb dX2_lookAt_83 rfl (lv_at hl 1 rfl) ?_
      refine va_get (D := gD g) (ci := 2) (v := .int z_58) (C := RX2) (T := TX2) (N := 12) hx hb hts inX2 hown hK hP k_1 hk_1 rfl 2 (by decide) (hts _ kw_716) (fun _ h9 => h9) rfl dX2_lookAt_84 ?_
      refine lv_iadd hx hb dX2_lookAt_87 ?_
      refine lv_topi (fun z_69 ez_69 => ?_)
      refine lv_iconst (v := 2) hx hb dX2_lookAt_88 (by decide) ?_
      refine lv_iadd hx hb dX2_lookAt_89 ?_
      refine lv_topi (fun z_70 ez_70 => ?_)
      have hV9 : okv ws_66 2 5 (.int z_70) := okv_i
      refine va_put (D := gD g) (ci := 2) (v := .int z_70) (ty := .int) (C := RX2) (T := TX2) (N := 12) hx hb hts inX2 tyX2 tyX2_ok nmX2 hown hK hP hD hS k_1 hk_1 rfl 5 (by decide) (hts _ kw_744) (fun _ h9 => h9) rfl (by decide +kernel) rfl rfl (Nat.le_of_ble_eq_true rfl) dX2_lookAt_90 (fun H locs hP hD hS => ?_)
      have hi_71 : invX2 g ws_66 h0 [.ref r0_1, .int z_64, .int z_58, .int r_44, .int r_50, .int z_70, .int c6_1, .ref r7_1, .int c8_1, .int c9_1, .long l10_1, .int c11_1] := ⟨r0_1, (z_64), (z_58), (r_44), (r_50), (z_70), (c6_1), r7_1, (n7_1), (c8_1), (c9_1), (l10_1), (c11_1), rfl, o_r0_1, a_r7_1, f2_1, f3_1, f_59, trivial⟩
      obtain ⟨ws_72, e_ws_72⟩ : ∃ z, z = ws_66.set k_1 (h0, .inr (2, [.ref r0_1, .int z_64, .int z_58, .int r_44, .int r_50, .int z_70, .int c6_1, .ref r7_1, .int c8_1, .int c9_1, .long l10_1, .int c11_1])) := ⟨_, rfl⟩
      have hP : va_P (gD g) cl0 ws_72 H := by rw [e_ws_72]; exact hP
      have hD : va_D A ws_72 := by rw [e_ws_72]; exact hD
      have E_73 : gE ws_66 ws_72 := gE_set e_ws_72 hk_1 (cw_o (fi := 5) (v := .int z_70) rfl (by decide))
      have hG : Good g ws_72 := Good_set (fi := 5) (v := .int z_70) e_ws_72 hk_1 E_73 rfl hV9 hG (ivX2 hi_71)
      have Fr_74 : gF [(2, 5)] [] (some h0) ws_66 ws_72 := gF_put (fi := 5) (v := .int z_70) e_ws_72 hk_1 rfl (by decide)
      have hkN := gset_self e_ws_72 hk_1
      have hk_2 := gset_ob e_ws_72 hk_1 hk_2 (by decide)
      have hk_42 := gset_obI e_ws_72 hk_1 hk_42
      have hk_1 := hkN
      have o_h0 := E_73.1 _ _ o_h0
      have o_r0_1 := E_73.1 _ _ o_r0_1
      have a_r7_1 := E_73.1 _ _ a_r7_1
      have a_r0_2 := E_73.1 _ _ a_r0_2
      have a_r4_2 := E_73.1 _ _ a_r4_2
      have a_r9_2 := E_73.1 _ _ a_r9_2
      have a_r10_2 := E_73.1 _ _ a_r10_2
      have a_r11_2 := E_73.1 _ _ a_r11_2
      refine lv_aload_n hx hb dX2_lookAt_93 rfl (lv_at hl 1 rfl) ?_
      refine lv_aload_n hx hb dX2_lookAt_94 rfl (lv_at hl 1 rfl) ?_
      refine va_get (D := gD g) (ci := 2) (v := .ref r0_1) (C := RX2) (T := TX2) (N := 12) hx hb hts inX2 hown hK hP k_1 hk_1 rfl 0 (by decide) (hts _ kw_632) (fun _ h9 => h9) rfl dX2_lookAt_95 ?_
      refine lv_aload_n hx hb dX2_lookAt_98 rfl (lv_at hl 1 rfl) ?_
      refine va_get (D := gD g) (ci := 2) (v := .int z_64) (C := RX2) (T := TX2) (N := 12) hx hb hts inX2 hown hK hP k_1 hk_1 rfl 1 (by decide) (hts _ kw_718) (fun _ h9 => h9) rfl dX2_lookAt_99 ?_
      refine lv_aload_n hx hb dX2_lookAt_102 rfl (lv_at hl 1 rfl) ?_
      refine va_get (D := gD g) (ci := 2) (v := .int z_58) (C := RX2) (T := TX2) (N := 12) hx hb hts inX2 hown hK hP k_1 hk_1 rfl 2 (by decide) (hts _ kw_716) (fun _ h9 => h9) rfl dX2_lookAt_103 ?_
      refine lv_iadd hx hb dX2_lookAt_106 ?_
      refine lv_topi (fun z_75 ez_75 => ?_)
      have hFc := gfree hD hS hA
      refine va_calli (va_runV (As := [.int z_75]) (rest := [.ref h0]) ⟨hx, hb, hml, hown, hts⟩ (m_X7_u2 l g H.size ws_72 r0_1 (z_75) hG o_r0_1) (cwV 1 hts (gd_V kw_651 kw_1450 kw_1451 kw_710 kw_1449) rfl rfl rfl (by decide +kernel) ⟨Nat.le_of_ble_eq_true rfl, Nat.le_of_ble_eq_true rfl⟩) ⟨gblind, va_recv hK hP (ci := 6) (q0 := k_2) rfl hk_2, fun U hU hW9 => gmk hU hW9 hP hK hD hex hE hS hFc⟩ rfl rfl hl.1 rfl (lv_room (Nat.le_of_ble_eq_true rfl)) dX2_lookAt_107 ⟨Nat.le_of_ble_eq_true rfl, Nat.le_of_ble_eq_true rfl⟩) hS (fun q _ h => hFc q h) hFc (fun r_76 u9 t9 H1 locs ht9 hvm9 hw9 hB9 hz9 hk9 hS => ?_)
      have hP : va_P (gD g) cl0 ws_72 H1 := by rw [← ht9]; exact hB9.1
      have h_r_76 := hw9
      clear hB9 hz9 hk9 hvm9 ht9 hw9
      generalize H1 = H at hP hS ⊢
      have hV9 : okv ws_72 2 6 (.int r_76) := okv_i
      refine va_put (D := gD g) (ci := 2) (v := .int r_76) (ty := .int) (C := RX2) (T := TX2) (N := 12) hx hb hts inX2 tyX2 tyX2_ok nmX2 hown hK hP hD hS k_1 hk_1 rfl 6 (by decide) (hts _ kw_745) (fun _ h9 => h9) rfl (by decide +kernel) rfl rfl (Nat.le_of_ble_eq_true rfl) dX2_lookAt_110 (fun H locs hP hD hS => ?_)
      have hi_77 : invX2 g ws_72 h0 [.ref r0_1, .int z_64, .int z_58, .int r_44, .int r_50, .int z_70, .int r_76, .ref r7_1, .int c8_1, .int c9_1, .long l10_1, .int c11_1] := ⟨r0_1, (z_64), (z_58), (r_44), (r_50), (z_70), (r_76), r7_1, (n7_1), (c8_1), (c9_1), (l10_1), (c11_1), rfl, o_r0_1, a_r7_1, f2_1, f3_1, f_59, trivial⟩
      obtain ⟨ws_78, e_ws_78⟩ : ∃ z, z = ws_72.set k_1 (h0, .inr (2, [.ref r0_1, .int z_64, .int z_58, .int r_44, .int r_50, .int z_70, .int r_76, .ref r7_1, .int c8_1, .int c9_1, .long l10_1, .int c11_1])) := ⟨_, rfl⟩
      have hP : va_P (gD g) cl0 ws_78 H := by rw [e_ws_78]; exact hP
      have hD : va_D A ws_78 := by rw [e_ws_78]; exact hD
      have E_79 : gE ws_72 ws_78 := gE_set e_ws_78 hk_1 (cw_o (fi := 6) (v := .int r_76) rfl (by decide))
      have hG : Good g ws_78 := Good_set (fi := 6) (v := .int r_76) e_ws_78 hk_1 E_79 rfl hV9 hG (ivX2 hi_77)
      have Fr_80 : gF [(2, 6)] [] (some h0) ws_72 ws_78 := gF_put (fi := 6) (v := .int r_76) e_ws_78 hk_1 rfl (by decide)
      have hkN := gset_self e_ws_78 hk_1
      have hk_2 := gset_ob e_ws_78 hk_1 hk_2 (by decide)
      have hk_42 := gset_obI e_ws_78 hk_1 hk_42
      have hk_1 := hkN
      have o_h0 := E_79.1 _ _ o_h0
      have o_r0_1 := E_79.1 _ _ o_r0_1
      have a_r7_1 := E_79.1 _ _ a_r7_1
      have a_r0_2 := E_79.1 _ _ a_r0_2
      have a_r4_2 := E_79.1 _ _ a_r4_2
      have a_r9_2 := E_79.1 _ _ a_r9_2
      have a_r10_2 := E_79.1 _ _ a_r10_2
      have a_r11_2 := E_79.1 _ _ a_r11_2
      refine W.widen (k := 0) (n := 0) (Nat.le_of_ble_eq_true rfl) (Nat.le_of_ble_eq_true rfl) ?_
      exact W.vret hx hb hr (fun t9 ht9 hW9 => ⟨⟨ws_78, rfl, ⟨(gP_of hD hk_1 (fun q90 e90 => by cases e90; exact (by have q_r_76 := h_r_76; have g_r_76 := i_rg r_76; omega))), (fun f9 e9 n9 c9 m9 q9 => by have hj : jSt c9 x1 = z_43 := (by unfold jSt; rw [if_neg (by have e0 : (0 : Int32).toInt = 0 := (by decide); have e24 : (24 : Int32).toInt = 24 := (by decide); have q_c_3 := i_nlt c_3; have q_c_41 := i_lt c_41; have g_x1 := i_rg x1; omega), vm_fc hD0 hkH rfl hkD rfl hkC q9, ← ez_43]); have hcd : jSt c9 x1 + 8 = z_64 := (by rw [hj]; exact ez_64.symm); have hsz : jSz f9 e9 n9 (jSt c9 x1) = z_58 := (by have y9 := xp_57 _ _ _ (vw_mo ((gF.tr (gF.mo (F' := [(2, 3), (2, 4)]) (C' := []) (S' := none) Fr_48 (by decide) (fun _ h => h) (Or.inl rfl)) (gF.mo (F' := [(2, 3), (2, 4)]) (C' := []) (S' := none) Fr_54 (by decide) (fun _ h => h) (Or.inl rfl)))) (by decide) (by decide) (by decide) (vm_vw hD0 hkH rfl q9)); unfold jSz; rw [hj]; rw [← ez_55]; rw [← y9]; exact ez_58.symm); rw [hcd, hsz]; exact ⟨_, _, _, hk_1, rfl, rfl, rfl, vw_mo ((gF.tr (gF.mo (F' := [(2, 1), (2, 2), (2, 3), (2, 4), (2, 5), (2, 6)]) (C' := []) (S' := none) Fr_48 (by decide) (fun _ h => h) (Or.inl rfl)) (gF.tr (gF.mo (F' := [(2, 1), (2, 2), (2, 3), (2, 4), (2, 5), (2, 6)]) (C' := []) (S' := none) Fr_54 (by decide) (fun _ h => h) (Or.inl rfl)) (gF.tr (gF.mo (F' := [(2, 1), (2, 2), (2, 3), (2, 4), (2, 5), (2, 6)]) (C' := []) (S' := none) Fr_63 (by decide) (fun _ h => h) (Or.inl rfl)) (gF.tr (gF.mo (F' := [(2, 1), (2, 2), (2, 3), (2, 4), (2, 5), (2, 6)]) (C' := []) (S' := none) Fr_68 (by decide) (fun _ h => h) (Or.inl rfl)) (gF.tr (gF.mo (F' := [(2, 1), (2, 2), (2, 3), (2, 4), (2, 5), (2, 6)]) (C' := []) (S' := none) Fr_74 (by decide) (fun _ h => h) (Or.inl rfl)) (gF.mo (F' := [(2, 1), (2, 2), (2, 3), (2, 4), (2, 5), (2, 6)]) (C' := []) (S' := none) Fr_80 (by decide) (fun _ h => h) (Or.inl rfl)))))))) (by decide) (by decide) (by decide) (vm_vw hD0 hkH rfl q9)⟩)⟩, ⟨(E_47.tr (E_53.tr (E_62.tr (E_67.tr (E_73.tr E_79))))), (gF.tr (gF.mo (F' := [(2, 1), (2, 2), (2, 3), (2, 4), (2, 5), (2, 6)]) (C' := []) (S' := none) Fr_48 (by decide) (fun _ h => h) (Or.inl rfl)) (gF.tr (gF.mo (F' := [(2, 1), (2, 2), (2, 3), (2, 4), (2, 5), (2, 6)]) (C' := []) (S' := none) Fr_54 (by decide) (fun _ h => h) (Or.inl rfl)) (gF.tr (gF.mo (F' := [(2, 1), (2, 2), (2, 3), (2, 4), (2, 5), (2, 6)]) (C' := []) (S' := none) Fr_63 (by decide) (fun _ h => h) (Or.inl rfl)) (gF.tr (gF.mo (F' := [(2, 1), (2, 2), (2, 3), (2, 4), (2, 5), (2, 6)]) (C' := []) (S' := none) Fr_68 (by decide) (fun _ h => h) (Or.inl rfl)) (gF.tr (gF.mo (F' := [(2, 1), (2, 2), (2, 3), (2, 4), (2, 5), (2, 6)]) (C' := []) (S' := none) Fr_74 (by decide) (fun _ h => h) (Or.inl rfl)) (gF.mo (F' := [(2, 1), (2, 2), (2, 3), (2, 4), (2, 5), (2, 6)]) (C' := []) (S' := none) Fr_80 (by decide) (fun _ h => h) (Or.inl rfl))))))), hG, by rw [ht9]; exact hP, hD⟩⟩, hS.F ht9⟩) hS.2.2 dX2_lookAt_113
    · refine lv_iconst (v := 0) hx hb dX2_lookAt_10 (by decide) ?_
      refine lv_goto (tgt := 23) hx hb dX2_lookAt_11 (by decide) ?_
      refine lv_istore_n (lv' := [(2, .int 0), (0, .ref h0), (1, .int x1)]) hx hb dX2_lookAt_23 rfl hl (by decide) rfl (fun ls hl => ?_)
      refine lv_aload_n hx hb dX2_lookAt_24 rfl (lv_at hl 1 rfl) ?_
      refine lv_aload_n hx hb dX2_lookAt_25 rfl (lv_at hl 1 rfl) ?_
      refine va_get (D := gD g) (ci := 2) (v := .ref r0_1) (C := RX2) (T := TX2) (N := 12) hx hb hts inX2 hown hK hP k_1 hk_1 rfl 0 (by decide) (hts _ kw_632) (fun _ h9 => h9) rfl dX2_lookAt_26 ?_
      refine lv_iload_n hx hb dX2_lookAt_29 rfl (lv_at hl 0 rfl) ?_
      have hFc := gfree hD hS hA
      refine va_calli (va_runV (As := [.int 0]) (rest := [.ref h0]) ⟨hx, hb, hml, hown, hts⟩ (m_X7_u2 l g s.heap.size ws r0_1 (0) hG o_r0_1) (cwV 1 hts (gd_V kw_651 kw_1450 kw_1451 kw_710 kw_1449) rfl rfl rfl (by decide +kernel) ⟨Nat.le_of_ble_eq_true rfl, Nat.le_of_ble_eq_true rfl⟩) ⟨gblind, va_recv hK hP (ci := 6) (q0 := k_2) rfl hk_2, fun U hU hW9 => gmk hU hW9 hP hK hD hex hE hS hFc⟩ rfl rfl hl.1 rfl (lv_room (Nat.le_of_ble_eq_true rfl)) dX2_lookAt_30 ⟨Nat.le_of_ble_eq_true rfl, Nat.le_of_ble_eq_true rfl⟩) hS (fun q _ h => hFc q h) hFc (fun r_81 u9 t9 H1 locs ht9 hvm9 hw9 hB9 hz9 hk9 hS => ?_)
      have hP : va_P (gD g) cl0 ws H1 := by rw [← ht9]; exact hB9.1
      have h_r_81 := hw9
      clear hB9 hz9 hk9 hvm9 ht9 hw9
      generalize H1 = H at hP hS ⊢
      have hV9 : okv ws 2 3 (.int r_81) := okv_i
      refine va_put (D := gD g) (ci := 2) (v := .int r_81) (ty := .int) (C := RX2) (T := TX2) (N := 12) hx hb hts inX2 tyX2 tyX2_ok nmX2 hown hK hP hD hS k_1 hk_1 rfl 3 (by decide) (hts _ kw_741) (fun _ h9 => h9) rfl (by decide +kernel) rfl rfl (Nat.le_of_ble_eq_true rfl) dX2_lookAt_33 (fun H locs hP hD hS => ?_)
      have hi_82 : invX2 g ws h0 [.ref r0_1, .int c1_1, .int c2_1, .int r_81, .int c4_1, .int c5_1, .int c6_1, .ref r7_1, .int c8_1, .int c9_1, .long l10_1, .int c11_1] := ⟨r0_1, (c1_1), (c2_1), (r_81), (c4_1), (c5_1), (c6_1), r7_1, (n7_1), (c8_1), (c9_1), (l10_1), (c11_1), rfl, o_r0_1, a_r7_1, f2_1, f3_1, f4_1, trivial⟩
      obtain ⟨ws_83, e_ws_83⟩ : ∃ z, z = ws.set k_1 (h0, .inr (2, [.ref r0_1, .int c1_1, .int c2_1, .int r_81, .int c4_1, .int c5_1, .int c6_1, .ref r7_1, .int c8_1, .int c9_1, .long l10_1, .int c11_1])) := ⟨_, rfl⟩
      have hP : va_P (gD g) cl0 ws_83 H := by rw [e_ws_83]; exact hP
      have hD : va_D A ws_83 := by rw [e_ws_83]; exact hD
      have E_84 : gE ws ws_83 := gE_set e_ws_83 hk_1 (cw_o (fi := 3) (v := .int r_81) rfl (by decide))
      have hG : Good g ws_83 := Good_set (fi := 3) (v := .int r_81) e_ws_83 hk_1 E_84 rfl hV9 hG (ivX2 hi_82)
      have Fr_85 : gF [(2, 3)] [] (some h0) ws ws_83 := gF_put (fi := 3) (v := .int r_81) e_ws_83 hk_1 rfl (by decide)
      have hkN := gset_self e_ws_83 hk_1
      have hk_2 := gset_ob e_ws_83 hk_1 hk_2 (by decide)
      have hk_1 := hkN
      have o_h0 := E_84.1 _ _ o_h0
      have o_r0_1 := E_84.1 _ _ o_r0_1
      have a_r7_1 := E_84.1 _ _ a_r7_1
      have a_r0_2 := E_84.1 _ _ a_r0_2
      have a_r4_2 := E_84.1 _ _ a_r4_2
      have a_r9_2 := E_84.1 _ _ a_r9_2
      have a_r10_2 := E_84.1 _ _ a_r10_2
      have a_r11_2 := E_84.1 _ _ a_r11_2
      refine lv_aload_n hx hb dX2_lookAt_36 rfl (lv_at hl 1 rfl) ?_
      refine lv_aload_n hx hb dX2_lookAt_37 rfl (lv_at hl 1 rfl) ?_
      refine va_get (D := gD g) (ci := 2) (v := .ref r0_1) (C := RX2) (T := TX2) (N := 12) hx hb hts inX2 hown hK hP k_1 hk_1 rfl 0 (by decide) (hts _ kw_632) (fun _ h9 => h9) rfl dX2_lookAt_38 ?_
      refine lv_iload_n hx hb dX2_lookAt_41 rfl (lv_at hl 0 rfl) ?_
      refine lv_iconst (v := 2) hx hb dX2_lookAt_42 (by decide) ?_
      refine lv_iadd hx hb dX2_lookAt_43 ?_
      refine lv_topi (fun z_86 ez_86 => ?_)
      obtain rfl : z_86 = 2 := ez_86.trans (by decide)
      have hFc := gfree hD hS hA
      refine va_calli (va_runV (As := [.int 2]) (rest := [.ref h0]) ⟨hx, hb, hml, hown, hts⟩ (m_X7_u2 l g H.size ws_83 r0_1 (2) hG o_r0_1) (cwV 1 hts (gd_V kw_651 kw_1450 kw_1451 kw_710 kw_1449) rfl rfl rfl (by decide +kernel) ⟨Nat.le_of_ble_eq_true rfl, Nat.le_of_ble_eq_true rfl⟩) ⟨gblind, va_recv hK hP (ci := 6) (q0 := k_2) rfl hk_2, fun U hU hW9 => gmk hU hW9 hP hK hD hex hE hS hFc⟩ rfl rfl hl.1 rfl (lv_room (Nat.le_of_ble_eq_true rfl)) dX2_lookAt_44 ⟨Nat.le_of_ble_eq_true rfl, Nat.le_of_ble_eq_true rfl⟩) hS (fun q _ h => hFc q h) hFc (fun r_87 u9 t9 H1 locs ht9 hvm9 hw9 hB9 hz9 hk9 hS => ?_)
      have hP : va_P (gD g) cl0 ws_83 H1 := by rw [← ht9]; exact hB9.1
      have h_r_87 := hw9
      clear hB9 hz9 hk9 hvm9 ht9 hw9
      generalize H1 = H at hP hS ⊢
      have hV9 : okv ws_83 2 4 (.int r_87) := okv_i
      refine va_put (D := gD g) (ci := 2) (v := .int r_87) (ty := .int) (C := RX2) (T := TX2) (N := 12) hx hb hts inX2 tyX2 tyX2_ok nmX2 hown hK hP hD hS k_1 hk_1 rfl 4 (by decide) (hts _ kw_742) (fun _ h9 => h9) rfl (by decide +kernel) rfl rfl (Nat.le_of_ble_eq_true rfl) dX2_lookAt_47 (fun H locs hP hD hS => ?_)
      have hi_88 : invX2 g ws_83 h0 [.ref r0_1, .int c1_1, .int c2_1, .int r_81, .int r_87, .int c5_1, .int c6_1, .ref r7_1, .int c8_1, .int c9_1, .long l10_1, .int c11_1] := ⟨r0_1, (c1_1), (c2_1), (r_81), (r_87), (c5_1), (c6_1), r7_1, (n7_1), (c8_1), (c9_1), (l10_1), (c11_1), rfl, o_r0_1, a_r7_1, f2_1, f3_1, f4_1, trivial⟩
      obtain ⟨ws_89, e_ws_89⟩ : ∃ z, z = ws_83.set k_1 (h0, .inr (2, [.ref r0_1, .int c1_1, .int c2_1, .int r_81, .int r_87, .int c5_1, .int c6_1, .ref r7_1, .int c8_1, .int c9_1, .long l10_1, .int c11_1])) := ⟨_, rfl⟩
      have hP : va_P (gD g) cl0 ws_89 H := by rw [e_ws_89]; exact hP
      have hD : va_D A ws_89 := by rw [e_ws_89]; exact hD
      have E_90 : gE ws_83 ws_89 := gE_set e_ws_89 hk_1 (cw_o (fi := 4) (v := .int r_87) rfl (by decide))
      have hG : Good g ws_89 := Good_set (fi := 4) (v := .int r_87) e_ws_89 hk_1 E_90 rfl hV9 hG (ivX2 hi_88)
      have Fr_91 : gF [(2, 4)] [] (some h0) ws_83 ws_89 := gF_put (fi := 4) (v := .int r_87) e_ws_89 hk_1 rfl (by decide)
      have hkN := gset_self e_ws_89 hk_1
      have hk_2 := gset_ob e_ws_89 hk_1 hk_2 (by decide)
      have hk_1 := hkN
      have o_h0 := E_90.1 _ _ o_h0
      have o_r0_1 := E_90.1 _ _ o_r0_1
      have a_r7_1 := E_90.1 _ _ a_r7_1
      have a_r0_2 := E_90.1 _ _ a_r0_2
      have a_r4_2 := E_90.1 _ _ a_r4_2
      have a_r9_2 := E_90.1 _ _ a_r9_2
      have a_r10_2 := E_90.1 _ _ a_r10_2
      have a_r11_2 := E_90.1 _ _ a_r11_2
      refine lv_aload_n hx hb dX2_lookAt_50 rfl (lv_at hl 1 rfl) ?_
      refine lv_aload_n hx hb dX2_lookAt_51 rfl (lv_at hl 1 rfl) ?_
      refine va_get (D := gD g) (ci := 2) (v := .ref r0_1) (C := RX2) (T := TX2) (N := 12) hx hb hts inX2 hown hK hP k_1 hk_1 rfl 0 (by decide) (hts _ kw_632) (fun _ h9 => h9) rfl dX2_lookAt_52 ?_
      refine lv_iload_n hx hb dX2_lookAt_55 rfl (lv_at hl 0 rfl) ?_
      refine lv_iconst (v := 4) hx hb dX2_lookAt_56 (by decide) ?_
      refine lv_iadd hx hb dX2_lookAt_57 ?_
      refine lv_topi (fun z_92 ez_92 => ?_)
      obtain rfl : z_92 = 4 := ez_92.trans (by decide)
      have hFc := gfree hD hS hA
      refine va_calli (va_runV (As := [.int 4]) (rest := [.ref h0]) ⟨hx, hb, hml, hown, hts⟩ (m_X7_s4_x l g H.size ws_89 r0_1 (4) hG o_r0_1) (cwV 1 hts (gd_V kw_634 kw_1429 kw_1430 kw_710 kw_1428) rfl rfl rfl (by decide +kernel) ⟨Nat.le_of_ble_eq_true rfl, Nat.le_of_ble_eq_true rfl⟩) ⟨gblind, va_recv hK hP (ci := 6) (q0 := k_2) rfl hk_2, fun U hU hW9 => gmk hU hW9 hP hK hD hex hE hS hFc⟩ rfl rfl hl.1 rfl (lv_room (Nat.le_of_ble_eq_true rfl)) dX2_lookAt_58 ⟨Nat.le_of_ble_eq_true rfl, Nat.le_of_ble_eq_true rfl⟩) hS (fun q _ h => hFc q h) hFc (fun r_93 u9 t9 H1 locs ht9 hvm9 hw9 hB9 hz9 hk9 hS => ?_)
      have hP : va_P (gD g) cl0 ws_89 H1 := by rw [← ht9]; exact hB9.1
      obtain ⟨hw9, xp_94⟩ := hw9
      clear hB9 hz9 hk9 hvm9 ht9 hw9
      generalize H1 = H at hP hS ⊢
      refine lv_sipush (v := 1200) hx hb dX2_lookAt_61 (by decide) ?_
      refine va_mmin hx hb (by rw [hml]; exact hl.1.symm) hown (hts _ kw_743) (hts _ kw_1750) (hts _ kw_1748) (hts _ kw_1749) (Nat.le_of_ble_eq_true rfl) (Nat.le_of_ble_eq_true rfl) (Nat.le_of_ble_eq_true rfl) (Nat.le_of_ble_eq_true rfl) dX2_lookAt_64 ?_
      refine lv_topi (fun z_95 ez_95 => ?_)
      have hV9 : okv ws_89 2 2 (.int z_95) := okv_i
      refine va_put (D := gD g) (ci := 2) (v := .int z_95) (ty := .int) (C := RX2) (T := TX2) (N := 12) hx hb hts inX2 tyX2 tyX2_ok nmX2 hown hK hP hD hS k_1 hk_1 rfl 2 (by decide) (hts _ kw_716) (fun _ h9 => h9) rfl (by decide +kernel) rfl rfl (Nat.le_of_ble_eq_true rfl) dX2_lookAt_67 (fun H locs hP hD hS => ?_)
      have f_96 : z_95.toInt ≤ 1200 := (by have e1200 : (1200 : Int32).toInt = 1200 := (by decide); have q_z_95 := i_min ez_95; have g_r_93 := i_rg r_93; have g_z_95 := i_rg z_95; omega)
      have hi_97 : invX2 g ws_89 h0 [.ref r0_1, .int c1_1, .int z_95, .int r_81, .int r_87, .int c5_1, .int c6_1, .ref r7_1, .int c8_1, .int c9_1, .long l10_1, .int c11_1] := ⟨r0_1, (c1_1), (z_95), (r_81), (r_87), (c5_1), (c6_1), r7_1, (n7_1), (c8_1), (c9_1), (l10_1), (c11_1), rfl, o_r0_1, a_r7_1, f2_1, f3_1, f_96, trivial⟩
      obtain ⟨ws_98, e_ws_98⟩ : ∃ z, z = ws_89.set k_1 (h0, .inr (2, [.ref r0_1, .int c1_1, .int z_95, .int r_81, .int r_87, .int c5_1, .int c6_1, .ref r7_1, .int c8_1, .int c9_1, .long l10_1, .int c11_1])) := ⟨_, rfl⟩
      have hP : va_P (gD g) cl0 ws_98 H := by rw [e_ws_98]; exact hP
      have hD : va_D A ws_98 := by rw [e_ws_98]; exact hD
      have E_99 : gE ws_89 ws_98 := gE_set e_ws_98 hk_1 (cw_o (fi := 2) (v := .int z_95) rfl (by decide))
      have hG : Good g ws_98 := Good_set (fi := 2) (v := .int z_95) e_ws_98 hk_1 E_99 rfl hV9 hG (ivX2 hi_97)
      have Fr_100 : gF [(2, 2)] [] (some h0) ws_89 ws_98 := gF_put (fi := 2) (v := .int z_95) e_ws_98 hk_1 rfl (by decide)
      have hkN := gset_self e_ws_98 hk_1
      have hk_2 := gset_ob e_ws_98 hk_1 hk_2 (by decide)
      have hk_1 := hkN
      have o_h0 := E_99.1 _ _ o_h0
      have o_r0_1 := E_99.1 _ _ o_r0_1
      have a_r7_1 := E_99.1 _ _ a_r7_1
      have a_r0_2 := E_99.1 _ _ a_r0_2
      have a_r4_2 := E_99.1 _ _ a_r4_2
      have a_r9_2 := E_99.1 _ _ a_r9_2
      have a_r10_2 := E_99.1 _ _ a_r10_2
      have a_r11_2 := E_99.1 _ _ a_r11_2
      refine lv_aload_n hx hb dX2_lookAt_70 rfl (lv_at hl 1 rfl) ?_
      refine lv_iload_n hx hb dX2_lookAt_71 rfl (lv_at hl 0 rfl) ?_
      refine lv_bipush (v := 8) hx hb dX2_lookAt_72 (by decide) ?_
      refine lv_iadd hx hb dX2_lookAt_74 ?_
      refine lv_topi (fun z_101 ez_101 => ?_)
      obtain rfl : z_101 = 8 := ez_101.trans (by decide)
      have hV9 : okv ws_98 2 1 (.int 8) := okv_i
      refine va_put (D := gD g) (ci := 2) (v := .int 8) (ty := .int) (C := RX2) (T := TX2) (N := 12) hx hb hts inX2 tyX2 tyX2_ok nmX2 hown hK hP hD hS k_1 hk_1 rfl 1 (by decide) (hts _ kw_718) (fun _ h9 => h9) rfl (by decide +kernel) rfl rfl (Nat.le_of_ble_eq_true rfl) dX2_lookAt_75 (fun H locs hP hD hS => ?_)
      have hi_102 : invX2 g ws_98 h0 [.ref r0_1, .int 8, .int z_95, .int r_81, .int r_87, .int c5_1, .int c6_1, .ref r7_1, .int c8_1, .int c9_1, .long l10_1, .int c11_1] := ⟨r0_1, (8), (z_95), (r_81), (r_87), (c5_1), (c6_1), r7_1, (n7_1), (c8_1), (c9_1), (l10_1), (c11_1), rfl, o_r0_1, a_r7_1, f2_1, f3_1, f_96, trivial⟩
      obtain ⟨ws_103, e_ws_103⟩ : ∃ z, z = ws_98.set k_1 (h0, .inr (2, [.ref r0_1, .int 8, .int z_95, .int r_81, .int r_87, .int c5_1, .int c6_1, .ref r7_1, .int c8_1, .int c9_1, .long l10_1, .int c11_1])) := ⟨_, rfl⟩
      have hP : va_P (gD g) cl0 ws_103 H := by rw [e_ws_103]; exact hP
      have hD : va_D A ws_103 := by rw [e_ws_103]; exact hD
      have E_104 : gE ws_98 ws_103 := gE_set e_ws_103 hk_1 (cw_o (fi := 1) (v := .int 8) rfl (by decide))
      have hG : Good g ws_103 := Good_set (fi := 1) (v := .int 8) e_ws_103 hk_1 E_104 rfl hV9 hG (ivX2 hi_102)
      have Fr_105 : gF [(2, 1)] [] (some h0) ws_98 ws_103 := gF_put (fi := 1) (v := .int 8) e_ws_103 hk_1 rfl (by decide)
      have hkN := gset_self e_ws_103 hk_1
      have hk_2 := gset_ob e_ws_103 hk_1 hk_2 (by decide)
      have hk_1 := hkN
      have o_h0 := E_104.1 _ _ o_h0
      have o_r0_1 := E_104.1 _ _ o_r0_1
      have a_r7_1 := E_104.1 _ _ a_r7_1
      have a_r0_2 := E_104.1 _ _ a_r0_2
      have a_r4_2 := E_104.1 _ _ a_r4_2
      have a_r9_2 := E_104.1 _ _ a_r9_2
      have a_r10_2 := E_104.1 _ _ a_r10_2
      have a_r11_2 := E_104.1 _ _ a_r11_2
      refine lv_aload_n hx hb dX2_lookAt_78 rfl (lv_at hl 1 rfl) ?_
      refine lv_aload_n hx hb dX2_lookAt_79 rfl (lv_at hl 1 rfl) ?_
      refine va_get (D := gD g) (ci := 2) (v := .int 8) (C := RX2) (T := TX2) (N := 12) hx hb hts inX2 hown hK hP k_1 hk_1 rfl 1 (by decide) (hts _ kw_718) (fun _ h9 => h9) rfl dX2_lookAt_80 ?_
      refine lv_aload_n hx hb dX2_lookAt_83 rfl (lv_at hl 1 rfl) ?_
      refine va_get (D := gD g) (ci := 2) (v := .int z_95) (C := RX2) (T := TX2) (N := 12) hx hb hts inX2 hown hK hP k_1 hk_1 rfl 2 (by decide) (hts _ kw_716) (fun _ h9 => h9) rfl dX2_lookAt_84 ?_
      refine lv_iadd hx hb dX2_lookAt_87 ?_
      refine lv_topi (fun z_106 ez_106 => ?_)
      refine lv_iconst (v := 2) hx hb dX2_lookAt_88 (by decide) ?_
      refine lv_iadd hx hb dX2_lookAt_89 ?_
      refine lv_topi (fun z_107 ez_107 => ?_)
      have hV9 : okv ws_103 2 5 (.int z_107) := okv_i
      refine va_put (D := gD g) (ci := 2) (v := .int z_107) (ty := .int) (C := RX2) (T := TX2) (N := 12) hx hb hts inX2 tyX2 tyX2_ok nmX2 hown hK hP hD hS k_1 hk_1 rfl 5 (by decide) (hts _ kw_744) (fun _ h9 => h9) rfl (by decide +kernel) rfl rfl (Nat.le_of_ble_eq_true rfl) dX2_lookAt_90 (fun H locs hP hD hS => ?_)
      have hi_108 : invX2 g ws_103 h0 [.ref r0_1, .int 8, .int z_95, .int r_81, .int r_87, .int z_107, .int c6_1, .ref r7_1, .int c8_1, .int c9_1, .long l10_1, .int c11_1] := ⟨r0_1, (8), (z_95), (r_81), (r_87), (z_107), (c6_1), r7_1, (n7_1), (c8_1), (c9_1), (l10_1), (c11_1), rfl, o_r0_1, a_r7_1, f2_1, f3_1, f_96, trivial⟩
      obtain ⟨ws_109, e_ws_109⟩ : ∃ z, z = ws_103.set k_1 (h0, .inr (2, [.ref r0_1, .int 8, .int z_95, .int r_81, .int r_87, .int z_107, .int c6_1, .ref r7_1, .int c8_1, .int c9_1, .long l10_1, .int c11_1])) := ⟨_, rfl⟩
      have hP : va_P (gD g) cl0 ws_109 H := by rw [e_ws_109]; exact hP
      have hD : va_D A ws_109 := by rw [e_ws_109]; exact hD
      have E_110 : gE ws_103 ws_109 := gE_set e_ws_109 hk_1 (cw_o (fi := 5) (v := .int z_107) rfl (by decide))
      have hG : Good g ws_109 := Good_set (fi := 5) (v := .int z_107) e_ws_109 hk_1 E_110 rfl hV9 hG (ivX2 hi_108)
      have Fr_111 : gF [(2, 5)] [] (some h0) ws_103 ws_109 := gF_put (fi := 5) (v := .int z_107) e_ws_109 hk_1 rfl (by decide)
      have hkN := gset_self e_ws_109 hk_1
      have hk_2 := gset_ob e_ws_109 hk_1 hk_2 (by decide)
      have hk_1 := hkN
      have o_h0 := E_110.1 _ _ o_h0
      have o_r0_1 := E_110.1 _ _ o_r0_1
      have a_r7_1 := E_110.1 _ _ a_r7_1
      have a_r0_2 := E_110.1 _ _ a_r0_2
      have a_r4_2 := E_110.1 _ _ a_r4_2
      have a_r9_2 := E_110.1 _ _ a_r9_2
      have a_r10_2 := E_110.1 _ _ a_r10_2
      have a_r11_2 := E_110.1 _ _ a_r11_2
      refine lv_aload_n hx hb dX2_lookAt_93 rfl (lv_at hl 1 rfl) ?_
      refine lv_aload_n hx hb dX2_lookAt_94 rfl (lv_at hl 1 rfl) ?_
      refine va_get (D := gD g) (ci := 2) (v := .ref r0_1) (C := RX2) (T := TX2) (N := 12) hx hb hts inX2 hown hK hP k_1 hk_1 rfl 0 (by decide) (hts _ kw_632) (fun _ h9 => h9) rfl dX2_lookAt_95 ?_
      refine lv_aload_n hx hb dX2_lookAt_98 rfl (lv_at hl 1 rfl) ?_
      refine va_get (D := gD g) (ci := 2) (v := .int 8) (C := RX2) (T := TX2) (N := 12) hx hb hts inX2 hown hK hP k_1 hk_1 rfl 1 (by decide) (hts _ kw_718) (fun _ h9 => h9) rfl dX2_lookAt_99 ?_
      refine lv_aload_n hx hb dX2_lookAt_102 rfl (lv_at hl 1 rfl) ?_
      refine va_get (D := gD g) (ci := 2) (v := .int z_95) (C := RX2) (T := TX2) (N := 12) hx hb hts inX2 hown hK hP k_1 hk_1 rfl 2 (by decide) (hts _ kw_716) (fun _ h9 => h9) rfl dX2_lookAt_103 ?_
      refine lv_iadd hx hb dX2_lookAt_106 ?_
      refine lv_topi (fun z_112 ez_112 => ?_)
      have hFc := gfree hD hS hA
      refine va_calli (va_runV (As := [.int z_112]) (rest := [.ref h0]) ⟨hx, hb, hml, hown, hts⟩ (m_X7_u2 l g H.size ws_109 r0_1 (z_112) hG o_r0_1) (cwV 1 hts (gd_V kw_651 kw_1450 kw_1451 kw_710 kw_1449) rfl rfl rfl (by decide +kernel) ⟨Nat.le_of_ble_eq_true rfl, Nat.le_of_ble_eq_true rfl⟩) ⟨gblind, va_recv hK hP (ci := 6) (q0 := k_2) rfl hk_2, fun U hU hW9 => gmk hU hW9 hP hK hD hex hE hS hFc⟩ rfl rfl hl.1 rfl (lv_room (Nat.le_of_ble_eq_true rfl)) dX2_lookAt_107 ⟨Nat.le_of_ble_eq_true rfl, Nat.le_of_ble_eq_true rfl⟩) hS (fun q _ h => hFc q h) hFc (fun r_113 u9 t9 H1 locs ht9 hvm9 hw9 hB9 hz9 hk9 hS => ?_)
      have hP : va_P (gD g) cl0 ws_109 H1 := by rw [← ht9]; exact hB9.1
      have h_r_113 := hw9
      clear hB9 hz9 hk9 hvm9 ht9 hw9
      generalize H1 = H at hP hS ⊢
      have hV9 : okv ws_109 2 6 (.int r_113) := okv_i
      refine va_put (D := gD g) (ci := 2) (v := .int r_113) (ty := .int) (C := RX2) (T := TX2) (N := 12) hx hb hts inX2 tyX2 tyX2_ok nmX2 hown hK hP hD hS k_1 hk_1 rfl 6 (by decide) (hts _ kw_745) (fun _ h9 => h9) rfl (by decide +kernel) rfl rfl (Nat.le_of_ble_eq_true rfl) dX2_lookAt_110 (fun H locs hP hD hS => ?_)
      have hi_114 : invX2 g ws_109 h0 [.ref r0_1, .int 8, .int z_95, .int r_81, .int r_87, .int z_107, .int r_113, .ref r7_1, .int c8_1, .int c9_1, .long l10_1, .int c11_1] := ⟨r0_1, (8), (z_95), (r_81), (r_87), (z_107), (r_113), r7_1, (n7_1), (c8_1), (c9_1), (l10_1), (c11_1), rfl, o_r0_1, a_r7_1, f2_1, f3_1, f_96, trivial⟩
      obtain ⟨ws_115, e_ws_115⟩ : ∃ z, z = ws_109.set k_1 (h0, .inr (2, [.ref r0_1, .int 8, .int z_95, .int r_81, .int r_87, .int z_107, .int r_113, .ref r7_1, .int c8_1, .int c9_1, .long l10_1, .int c11_1])) := ⟨_, rfl⟩
      have hP : va_P (gD g) cl0 ws_115 H := by rw [e_ws_115]; exact hP
      have hD : va_D A ws_115 := by rw [e_ws_115]; exact hD
      have E_116 : gE ws_109 ws_115 := gE_set e_ws_115 hk_1 (cw_o (fi := 6) (v := .int r_113) rfl (by decide))
      have hG : Good g ws_115 := Good_set (fi := 6) (v := .int r_113) e_ws_115 hk_1 E_116 rfl hV9 hG (ivX2 hi_114)
      have Fr_117 : gF [(2, 6)] [] (some h0) ws_109 ws_115 := gF_put (fi := 6) (v := .int r_113) e_ws_115 hk_1 rfl (by decide)
      have hkN := gset_self e_ws_115 hk_1
      have hk_2 := gset_ob e_ws_115 hk_1 hk_2 (by decide)
      have hk_1 := hkN
      have o_h0 := E_116.1 _ _ o_h0
      have o_r0_1 := E_116.1 _ _ o_r0_1
      have a_r7_1 := E_116.1 _ _ a_r7_1
      have a_r0_2 := E_116.1 _ _ a_r0_2
      have a_r4_2 := E_116.1 _ _ a_r4_2
      have a_r9_2 := E_116.1 _ _ a_r9_2
      have a_r10_2 := E_116.1 _ _ a_r10_2
      have a_r11_2 := E_116.1 _ _ a_r11_2
      refine W.widen (k := 0) (n := 0) (Nat.le_of_ble_eq_true rfl) (Nat.le_of_ble_eq_true rfl) ?_
      exact W.vret hx hb hr (fun t9 ht9 hW9 => ⟨⟨ws_115, rfl, ⟨(gP_of hD hk_1 (fun q90 e90 => by cases e90; exact (by have q_r_113 := h_r_113; have g_r_113 := i_rg r_113; omega))), (fun f9 e9 n9 c9 m9 q9 => by have hj : jSt c9 x1 = (0 : Int32) := (by unfold jSt; rw [if_pos (by have e0 : (0 : Int32).toInt = 0 := (by decide); have e24 : (24 : Int32).toInt = 24 := (by decide); have q_c_3 := i_nlt c_3; have q_c_41 := i_nlt c_41; have g_x1 := i_rg x1; omega)]); have hcd : jSt c9 x1 + 8 = (8 : Int32) := (by rw [hj]; decide); have hsz : jSz f9 e9 n9 (jSt c9 x1) = z_95 := (by have y9 := xp_94 _ _ _ (vw_mo ((gF.tr (gF.mo (F' := [(2, 3), (2, 4)]) (C' := []) (S' := none) Fr_85 (by decide) (fun _ h => h) (Or.inl rfl)) (gF.mo (F' := [(2, 3), (2, 4)]) (C' := []) (S' := none) Fr_91 (by decide) (fun _ h => h) (Or.inl rfl)))) (by decide) (by decide) (by decide) (vm_vw hD0 hkH rfl q9)); unfold jSz; rw [hj]; rw [show (0 : Int32) + 4 = 4 from by decide]; rw [← y9]; exact ez_95.symm); rw [hcd, hsz]; exact ⟨_, _, _, hk_1, rfl, rfl, rfl, vw_mo ((gF.tr (gF.mo (F' := [(2, 1), (2, 2), (2, 3), (2, 4), (2, 5), (2, 6)]) (C' := []) (S' := none) Fr_85 (by decide) (fun _ h => h) (Or.inl rfl)) (gF.tr (gF.mo (F' := [(2, 1), (2, 2), (2, 3), (2, 4), (2, 5), (2, 6)]) (C' := []) (S' := none) Fr_91 (by decide) (fun _ h => h) (Or.inl rfl)) (gF.tr (gF.mo (F' := [(2, 1), (2, 2), (2, 3), (2, 4), (2, 5), (2, 6)]) (C' := []) (S' := none) Fr_100 (by decide) (fun _ h => h) (Or.inl rfl)) (gF.tr (gF.mo (F' := [(2, 1), (2, 2), (2, 3), (2, 4), (2, 5), (2, 6)]) (C' := []) (S' := none) Fr_105 (by decide) (fun _ h => h) (Or.inl rfl)) (gF.tr (gF.mo (F' := [(2, 1), (2, 2), (2, 3), (2, 4), (2, 5), (2, 6)]) (C' := []) (S' := none) Fr_111 (by decide) (fun _ h => h) (Or.inl rfl)) (gF.mo (F' := [(2, 1), (2, 2), (2, 3), (2, 4), (2, 5), (2, 6)]) (C' := []) (S' := none) Fr_117 (by decide) (fun _ h => h) (Or.inl rfl)))))))) (by decide) (by decide) (by decide) (vm_vw hD0 hkH rfl q9)⟩)⟩, ⟨(E_84.tr (E_90.tr (E_99.tr (E_104.tr (E_110.tr E_116))))), (gF.tr (gF.mo (F' := [(2, 1), (2, 2), (2, 3), (2, 4), (2, 5), (2, 6)]) (C' := []) (S' := none) Fr_85 (by decide) (fun _ h => h) (Or.inl rfl)) (gF.tr (gF.mo (F' := [(2, 1), (2, 2), (2, 3), (2, 4), (2, 5), (2, 6)]) (C' := []) (S' := none) Fr_91 (by decide) (fun _ h => h) (Or.inl rfl)) (gF.tr (gF.mo (F' := [(2, 1), (2, 2), (2, 3), (2, 4), (2, 5), (2, 6)]) (C' := []) (S' := none) Fr_100 (by decide) (fun _ h => h) (Or.inl rfl)) (gF.tr (gF.mo (F' := [(2, 1), (2, 2), (2, 3), (2, 4), (2, 5), (2, 6)]) (C' := []) (S' := none) Fr_105 (by decide) (fun _ h => h) (Or.inl rfl)) (gF.tr (gF.mo (F' := [(2, 1), (2, 2), (2, 3), (2, 4), (2, 5), (2, 6)]) (C' := []) (S' := none) Fr_111 (by decide) (fun _ h => h) (Or.inl rfl)) (gF.mo (F' := [(2, 1), (2, 2), (2, 3), (2, 4), (2, 5), (2, 6)]) (C' := []) (S' := none) Fr_117 (by decide) (fun _ h => h) (Or.inl rfl))))))), hG, by rw [ht9]; exact hP, hD⟩⟩, hS.F ht9⟩) hS.2.2 dX2_lookAt_113
set_option maxHeartbeats 1000000 in
set_option maxRecDepth 100000 in
theorem m_X7_breaks_z (l : Launch) (g : Gm) (sz : Nat) (ws : va_W) (h0 : Nat) (x1 : Int32) (x2 : Int32) (hG : Good g ws) (o_h0 : gC ws h0 6) : Met l yX7_breaks (wt yX7_breaks cX7_breaks 3 (some .boolean)) ({ frames := 0, cells := 0, slots := 0, locals := 0 }) (va_Pc [.ref h0, .int x1, .int x2] (st_G g sz ws)) (va_Qi (fun (r : Int32) (u9 : va_W) => (r = 0 ∨ r = 1) ∧ (r.toInt = 0)) (gQ1 g [(6, 2), (6, 3)] [] none (va_A ws sz) ws) (va_A ws sz)) (0) (0) (va_A ws sz) := by
  refine Met.ofW (cc := cX7_breaks) (maxL := 3) (ret := (some .boolean)) (by decide) rfl ?_
  intro p e s m args below meth c s₁ B hml hv
  obtain ⟨rfl, hsz, hP, hK, hD0, hex, hE⟩ := hv
  have hx := B.exec
  have hb := B.bytes
  have hr := B.returns
  have hts0 := atoms_spec (ws := wt yX7_breaks cX7_breaks 3 (some .boolean)) B.pre
  have hts : ∀ w ∈ tb, w.before _ s = true := fun w h => hts0 w (List.mem_cons_of_mem _ h)
  have hown : s.vm.findClass RX7 = some m.cls := findClass_of_methodNamed B.named
  subst hsz
  have hD := hD0.self (sz := s.heap.size)
  generalize hAe : va_A ws s.heap.size = A at hD hE ⊢
  have hA : ∀ q : Nat, s.heap.size ≤ q → A q := fun q h => by rw [← hAe]; exact Or.inr h
  have hS : va_S A s.heap s.heap [] := va_S.rf
  have hl := lv_entry ([.ref h0, .int x1, .int x2]) (n := 3) (Nat.le_of_ble_eq_true rfl)
  rw [lg_entry_eq]
  generalize (lg_sl ([.ref h0, .int x1, .int x2]) ++ List.replicate (3 - (lg_sl ([.ref h0, .int x1, .int x2])).length) Slot.unset).toArray = ls at hl ⊢
  have hl : lv_has ls 3 [(0, .ref h0), (1, .int x1), (2, .int x2)] := hl
  refine lv_aload_n hx hb dX7_breaks_0 rfl (lv_at hl 0 rfl) ?_
  refine lv_iload_n hx hb dX7_breaks_1 rfl (lv_at hl 1 rfl) ?_
  obtain ⟨k_1, fs9, hk_1⟩ := gC_of o_h0
  obtain ⟨r0_1, n0_1, c1_1, c2_1, c3_1, r4_1, n4_1, c5_1, c6_1, c7_1, c8_1, r9_1, n9_1, r10_1, n10_1, r11_1, n11_1, c12_1, c13_1, c14_1, c15_1, c16_1, rfl, a_r0_1, f1_1, a_r4_1, f3_1, a_r9_1, f5_1, a_r10_1, f7_1, a_r11_1, f9_1, f10_1, f11_1, f12_1, f13_1, f14_1, -⟩ := (hG.1 _ _ _ _ hk_1).hX7 rfl
  have hV9 : okv ws 6 2 (.int x1) := okv_i
  refine va_put (D := gD g) (ci := 6) (v := .int x1) (ty := .int) (C := RX7) (T := TX7) (N := 17) hx hb hts inX7 tyX7 tyX7_ok nmX7 hown hK hP hD hS k_1 hk_1 rfl 2 (by decide) (hts _ kw_1280) (fun _ h9 => h9) rfl (by decide +kernel) rfl rfl (Nat.le_of_ble_eq_true rfl) dX7_breaks_2 (fun H locs hP hD hS => ?_)
  have hi_2 : invX7 g ws h0 [.ref r0_1, .int c1_1, .int x1, .int c3_1, .ref r4_1, .int c5_1, .int c6_1, .int c7_1, .int c8_1, .ref r9_1, .ref r10_1, .ref r11_1, .int c12_1, .int c13_1, .int c14_1, .int c15_1, .int c16_1] := ⟨r0_1, (n0_1), (c1_1), (x1), (c3_1), r4_1, (n4_1), (c5_1), (c6_1), (c7_1), (c8_1), r9_1, (n9_1), r10_1, (n10_1), r11_1, (n11_1), (c12_1), (c13_1), (c14_1), (c15_1), (c16_1), rfl, a_r0_1, f1_1, a_r4_1, f3_1, a_r9_1, f5_1, a_r10_1, f7_1, a_r11_1, f9_1, f10_1, f11_1, f12_1, f13_1, f14_1, trivial⟩
  obtain ⟨ws_3, e_ws_3⟩ : ∃ z, z = ws.set k_1 (h0, .inr (6, [.ref r0_1, .int c1_1, .int x1, .int c3_1, .ref r4_1, .int c5_1, .int c6_1, .int c7_1, .int c8_1, .ref r9_1, .ref r10_1, .ref r11_1, .int c12_1, .int c13_1, .int c14_1, .int c15_1, .int c16_1])) := ⟨_, rfl⟩
  have hP : va_P (gD g) cl0 ws_3 H := by rw [e_ws_3]; exact hP
  have hD : va_D A ws_3 := by rw [e_ws_3]; exact hD
  have E_4 : gE ws ws_3 := gE_set e_ws_3 hk_1 (cw_o (fi := 2) (v := .int x1) rfl (by decide))
  have hG : Good g ws_3 := Good_set (fi := 2) (v := .int x1) e_ws_3 hk_1 E_4 rfl hV9 hG (ivX7 hi_2)
  have Fr_5 : gF [(6, 2)] [] (some h0) ws ws_3 := gF_put (fi := 2) (v := .int x1) e_ws_3 hk_1 rfl (by decide)
  have hkN := gset_self e_ws_3 hk_1
  have hk_1 := hkN
  have o_h0 := E_4.1 _ _ o_h0
  have a_r0_1 := E_4.1 _ _ a_r0_1
  have a_r4_1 := E_4.1 _ _ a_r4_1
  have a_r9_1 := E_4.1 _ _ a_r9_1
  have a_r10_1 := E_4.1 _ _ a_r10_1
  have a_r11_1 := E_4.1 _ _ a_r11_1
  refine lv_aload_n hx hb dX7_breaks_5 rfl (lv_at hl 0 rfl) ?_
  refine lv_iload_n hx hb dX7_breaks_6 rfl (lv_at hl 2 rfl) ?_
  have hV9 : okv ws_3 6 3 (.int x2) := okv_i
  refine va_put (D := gD g) (ci := 6) (v := .int x2) (ty := .int) (C := RX7) (T := TX7) (N := 17) hx hb hts inX7 tyX7 tyX7_ok nmX7 hown hK hP hD hS k_1 hk_1 rfl 3 (by decide) (hts _ kw_1281) (fun _ h9 => h9) rfl (by decide +kernel) rfl rfl (Nat.le_of_ble_eq_true rfl) dX7_breaks_7 (fun H locs hP hD hS => ?_)
  have hi_6 : invX7 g ws_3 h0 [.ref r0_1, .int c1_1, .int x1, .int x2, .ref r4_1, .int c5_1, .int c6_1, .int c7_1, .int c8_1, .ref r9_1, .ref r10_1, .ref r11_1, .int c12_1, .int c13_1, .int c14_1, .int c15_1, .int c16_1] := ⟨r0_1, (n0_1), (c1_1), (x1), (x2), r4_1, (n4_1), (c5_1), (c6_1), (c7_1), (c8_1), r9_1, (n9_1), r10_1, (n10_1), r11_1, (n11_1), (c12_1), (c13_1), (c14_1), (c15_1), (c16_1), rfl, a_r0_1, f1_1, a_r4_1, f3_1, a_r9_1, f5_1, a_r10_1, f7_1, a_r11_1, f9_1, f10_1, f11_1, f12_1, f13_1, f14_1, trivial⟩
  obtain ⟨ws_7, e_ws_7⟩ : ∃ z, z = ws_3.set k_1 (h0, .inr (6, [.ref r0_1, .int c1_1, .int x1, .int x2, .ref r4_1, .int c5_1, .int c6_1, .int c7_1, .int c8_1, .ref r9_1, .ref r10_1, .ref r11_1, .int c12_1, .int c13_1, .int c14_1, .int c15_1, .int c16_1])) := ⟨_, rfl⟩
  have hP : va_P (gD g) cl0 ws_7 H := by rw [e_ws_7]; exact hP
  have hD : va_D A ws_7 := by rw [e_ws_7]; exact hD
  have E_8 : gE ws_3 ws_7 := gE_set e_ws_7 hk_1 (cw_o (fi := 3) (v := .int x2) rfl (by decide))
  have hG : Good g ws_7 := Good_set (fi := 3) (v := .int x2) e_ws_7 hk_1 E_8 rfl hV9 hG (ivX7 hi_6)
  have Fr_9 : gF [(6, 3)] [] (some h0) ws_3 ws_7 := gF_put (fi := 3) (v := .int x2) e_ws_7 hk_1 rfl (by decide)
  have hkN := gset_self e_ws_7 hk_1
  have hk_1 := hkN
  have o_h0 := E_8.1 _ _ o_h0
  have a_r0_1 := E_8.1 _ _ a_r0_1
  have a_r4_1 := E_8.1 _ _ a_r4_1
  have a_r9_1 := E_8.1 _ _ a_r9_1
  have a_r10_1 := E_8.1 _ _ a_r10_1
  have a_r11_1 := E_8.1 _ _ a_r11_1
  refine lv_iconst (v := 0) hx hb dX7_breaks_10 (by decide) ?_
  refine W.widen (k := 0) (n := 0) (Nat.le_of_ble_eq_true rfl) (Nat.le_of_ble_eq_true rfl) ?_
  exact W.zret (v := 0) hx hb hr (nz (Or.inl rfl)) (fun t9 ht9 hW9 => ⟨⟨_, ws_7, rfl, ⟨(Or.inl rfl), (by decide)⟩, ⟨(E_4.tr E_8), (gF.tr (gF.mo (F' := [(6, 2), (6, 3)]) (C' := []) (S' := none) Fr_5 (by decide) (fun _ h => h) (Or.inl rfl)) (gF.mo (F' := [(6, 2), (6, 3)]) (C' := []) (S' := none) Fr_9 (by decide) (fun _ h => h) (Or.inl rfl))), hG, by rw [ht9]; exact hP, hD⟩⟩, hS.F ht9⟩) hS.2.2 dX7_breaks_11
set_option maxHeartbeats 1000000 in
set_option maxRecDepth 100000 in
theorem m_X2_instructionsHold_z (l : Launch) (g : Gm) (sz : Nat) (ws : va_W) (h0 : Nat) (hG : Good g ws) (o_h0 : gC ws h0 2) : Met l yX2_instructionsHold (wt yX2_instructionsHold cX2_instructionsHold 3 (some .boolean)) ({ frames := 4, cells := 0, slots := 0, locals := 88 }) (va_Pc [.ref h0] (st_G g sz ws)) (va_Qi (fun (r : Int32) (u9 : va_W) => (r = 0 ∨ r = 1) ∧ (r.toInt = 1 → wfA g u9 h0)) (gQ1 g [(2, 1), (2, 2), (2, 3), (2, 4), (2, 5), (2, 6), (6, 2), (6, 3)] [] none (va_A ws sz) ws) (va_A ws sz)) (0) (0) (va_A ws sz) := by
  refine Met.ofW (cc := cX2_instructionsHold) (maxL := 3) (ret := (some .boolean)) (by decide) rfl ?_
  intro p e s m args below meth c s₁ B hml hv
  obtain ⟨rfl, hsz, hP, hK, hD0, hex, hE⟩ := hv
  have hx := B.exec
  have hb := B.bytes
  have hr := B.returns
  have hts0 := atoms_spec (ws := wt yX2_instructionsHold cX2_instructionsHold 3 (some .boolean)) B.pre
  have hts : ∀ w ∈ tb, w.before _ s = true := fun w h => hts0 w (List.mem_cons_of_mem _ h)
  have hown : s.vm.findClass RX2 = some m.cls := findClass_of_methodNamed B.named
  subst hsz
  have hD := hD0.self (sz := s.heap.size)
  generalize hAe : va_A ws s.heap.size = A at hD hE ⊢
  have hA : ∀ q : Nat, s.heap.size ≤ q → A q := fun q h => by rw [← hAe]; exact Or.inr h
  have hS : va_S A s.heap s.heap [] := va_S.rf
  have hl := lv_entry ([.ref h0]) (n := 3) (Nat.le_of_ble_eq_true rfl)
  rw [lg_entry_eq]
  generalize (lg_sl ([.ref h0]) ++ List.replicate (3 - (lg_sl ([.ref h0])).length) Slot.unset).toArray = ls at hl ⊢
  have hl : lv_has ls 3 [(0, .ref h0)] := hl
  obtain ⟨k_1, fs9, hk_1⟩ := gC_of o_h0
  obtain ⟨r0_1, c1_1, c2_1, c3_1, c4_1, c5_1, c6_1, r7_1, n7_1, c8_1, c9_1, l10_1, c11_1, rfl, o_r0_1, a_r7_1, f2_1, f3_1, f4_1, -⟩ := (hG.1 _ _ _ _ hk_1).hX2 rfl
  obtain ⟨k_2, fs9, hk_2⟩ := gC_of o_r0_1
  obtain ⟨r0_2, n0_2, c1_2, c2_2, c3_2, r4_2, n4_2, c5_2, c6_2, c7_2, c8_2, r9_2, n9_2, r10_2, n10_2, r11_2, n11_2, c12_2, c13_2, c14_2, c15_2, c16_2, rfl, a_r0_2, f1_2, a_r4_2, f3_2, a_r9_2, f5_2, a_r10_2, f7_2, a_r11_2, f9_2, f10_2, f11_2, f12_2, f13_2, f14_2, -⟩ := (hG.1 _ _ _ _ hk_2).hX7 rfl
  obtain ⟨k_3, f_3, hk_3⟩ := gI_of a_r0_2
  obtain ⟨k_4, f_4, hk_4⟩ := gI_of a_r10_2
  have tq_5 : wfP g ws h0 (0 : Int32) := wfP_0 hk_1 rfl hk_2 rfl rfl hk_3 rfl rfl hk_4 (by decide)
  refine lv_iconst (v := 0) hx hb dX2_instructionsHold_0 (by decide) ?_
  refine lv_istore_n (lv' := [(1, .int 0), (0, .ref h0)]) hx hb dX2_instructionsHold_1 rfl hl (by decide) rfl (fun ls hl => ?_)
  have J_2 : ∀ (n9 : Nat) (v1_6 : Int32) (ws_8 : va_W) (H : Heap) (locs : List Loc) (ls : Array Slot), (2147483647 - v1_6.toInt).toNat = n9 → 0 ≤ v1_6.toInt → gE ws ws_8 → gF [(2, 1), (2, 2), (2, 3), (2, 4), (2, 5), (2, 6)] [] none ws ws_8 → Good g ws_8 → wfP g ws_8 h0 v1_6 → va_P (gD g) cl0 ws_8 H → va_D A ws_8 → va_S A s.heap H locs → lv_has ls 3 [(0, .ref h0), (1, .int v1_6)] → W p l e (headSpec (wt yX2_instructionsHold cX2_instructionsHold 3 (some .boolean)) ({ frames := 4, cells := 0, slots := 0, locals := 88 })).room s m ([.ref h0] : List Value).toArray below meth c H locs (0) (0) (MQ below (va_Qi (fun (r : Int32) (u9 : va_W) => (r = 0 ∨ r = 1) ∧ (r.toInt = 1 → wfA g u9 h0)) (gQ1 g [(2, 1), (2, 2), (2, 3), (2, 4), (2, 5), (2, 6), (6, 2), (6, 3)] [] none A ws) A) ([.ref h0] : List Value).toArray s (0) (0) A) (F0 m 2 ls []) := by
    intro n9
    induction n9 using Nat.strongRecOn with
    | ind n9 ih_2 =>
      intro v1_6 ws_8 H locs ls hm9 iv_7 E_9 Fr_10 hG jx_2_0 hP hD hS hl
      subst hm9
      have aa_11 := a_r7_1
      have aa_12 := a_r0_2
      have aa_13 := a_r4_2
      have aa_14 := a_r9_2
      have aa_15 := a_r10_2
      have aa_16 := a_r11_2
      have o_h0 := E_9.1 _ _ o_h0
      refine lv_iload_n hx hb dX2_instructionsHold_2 rfl (lv_at hl 1 rfl) ?_
      refine lv_aload_n hx hb dX2_instructionsHold_3 rfl (lv_at hl 0 rfl) ?_
      obtain ⟨fs9, hk_17, hq_17⟩ := ((gF.a (F' := [(2, 1), (2, 2), (2, 3), (2, 4), (2, 5), (2, 6)]) Fr_10 (fun _ h => h))) _ _ _ hk_1
      obtain ⟨r0_17, c1_17, c2_17, c3_17, c4_17, c5_17, c6_17, r7_17, n7_17, c8_17, c9_17, l10_17, c11_17, rfl, o_r0_17, a_r7_17, f2_17, f3_17, f4_17, -⟩ := (hG.1 _ _ _ _ hk_17).hX2 rfl
      obtain rfl := fe_r (hq_17 0 (by decide))
      have o_r0_1 := o_r0_17
      refine va_get (D := gD g) (ci := 2) (v := .ref r0_1) (C := RX2) (T := TX2) (N := 12) hx hb hts inX2 hown hK hP k_1 hk_17 rfl 0 (by decide) (hts _ kw_632) (fun _ h9 => h9) rfl dX2_instructionsHold_4 ?_
      obtain ⟨fs9, hk_18, hq_18⟩ := ((gF.a (F' := [(2, 1), (2, 2), (2, 3), (2, 4), (2, 5), (2, 6)]) Fr_10 (fun _ h => h))) _ _ _ hk_2
      obtain ⟨r0_18, n0_18, c1_18, c2_18, c3_18, r4_18, n4_18, c5_18, c6_18, c7_18, c8_18, r9_18, n9_18, r10_18, n10_18, r11_18, n11_18, c12_18, c13_18, c14_18, c15_18, c16_18, rfl, a_r0_18, f1_18, a_r4_18, f3_18, a_r9_18, f5_18, a_r10_18, f7_18, a_r11_18, f9_18, f10_18, f11_18, f12_18, f13_18, f14_18, -⟩ := (hG.1 _ _ _ _ hk_18).hX7 rfl
      obtain rfl := fe_i (hq_18 8 (by decide))
      refine va_get (D := gD g) (ci := 6) (v := .int c8_2) (C := RX7) (T := TX7) (N := 17) hx hb hts inX7 hown hK hP k_2 hk_18 rfl 8 (by decide) (hts _ kw_646) (fun _ h9 => h9) rfl dX2_instructionsHold_7 ?_
      refine lv_icmp_ge (tgt := 69) hx hb dX2_instructionsHold_10 (by decide) (fun c_19 => ?_) (fun c_19 => ?_)
      · refine lv_iconst (v := 1) hx hb dX2_instructionsHold_69 (by decide) ?_
        refine W.widen (k := 0) (n := 0) (Nat.le_of_ble_eq_true rfl) (Nat.le_of_ble_eq_true rfl) ?_
        exact W.zret (v := 1) hx hb hr (nz (Or.inr rfl)) (fun t9 ht9 hW9 => ⟨⟨_, ws_8, rfl, ⟨(Or.inr rfl), (fun _ => wfA_P hD hk_17 rfl hk_18 rfl (by have q_iv_7 := iv_7; have q_c_19 := i_le c_19; have g_c8_2 := i_rg c8_2; have g_v1_6 := i_rg v1_6; omega) jx_2_0)⟩, ⟨E_9, (gF.mo (F' := [(2, 1), (2, 2), (2, 3), (2, 4), (2, 5), (2, 6), (6, 2), (6, 3)]) (C' := []) (S' := none) Fr_10 (by decide) (fun _ h => h) (Or.inr rfl)), hG, by rw [ht9]; exact hP, hD⟩⟩, hS.F ht9⟩) hS.2.2 dX2_instructionsHold_70
      · refine lv_aload_n hx hb dX2_instructionsHold_13 rfl (lv_at hl 0 rfl) ?_
        refine lv_iload_n hx hb dX2_instructionsHold_14 rfl (lv_at hl 1 rfl) ?_
        have hFc := gfree hD hS hA
        refine va_callv (va_runV (As := [.int v1_6]) (rest := []) ⟨hx, hb, hml, hown, hts⟩ (m_X2_lookAt_z l g H.size ws_8 h0 (v1_6) hG o_h0) (cwV 1 hts (gd_V kw_715 kw_739 kw_740 kw_389 kw_738) rfl rfl rfl (by decide +kernel) ⟨Nat.le_of_ble_eq_true rfl, Nat.le_of_ble_eq_true rfl⟩) ⟨gblind, va_recv hK hP (ci := 2) (q0 := k_1) rfl hk_17, fun U hU hW9 => gmk hU hW9 hP hK hD hex hE hS hFc⟩ rfl rfl hl.1 rfl (lv_room (Nat.le_of_ble_eq_true rfl)) dX2_instructionsHold_15 ⟨Nat.le_of_ble_eq_true rfl, Nat.le_of_ble_eq_true rfl⟩) hS (fun q _ h => hFc q h) hFc (fun  ws_20 t9 H1 locs ht9 hvm9 hw9 hB9 hz9 hk9 hS => ?_)
        obtain ⟨E_21, Fr_22, hG, hP1, hD1⟩ := hB9
        have hP : va_P (gD g) cl0 ws_20 H1 := by rw [← ht9]; exact hP1
        have hD : va_D A ws_20 := hD1.weaken (fun _ _ _ h => hFc _ h)
        obtain ⟨hw9, xp_25⟩ := hw9
        have kf_26 := hw9
        clear hP1 hD1 hz9 hk9 hvm9 ht9 hw9
        generalize H1 = H at hP hS ⊢
        have aa_27 := a_r7_17
        have aa_28 := a_r0_18
        have aa_29 := a_r4_18
        have aa_30 := a_r9_18
        have aa_31 := a_r10_18
        have aa_32 := a_r11_18
        have o_h0 := E_21.1 _ _ o_h0
        have tq_33 : wfS g ws_20 h0 v1_6 (0 : Int32) := wfS_0 Fr_22 (by decide) (by decide) (by decide) (by decide) (by decide) (by decide) (by decide) jx_2_0 xp_25
        refine lv_iconst (v := 0) hx hb dX2_instructionsHold_18 (by decide) ?_
        refine lv_istore_n (lv' := [(2, .int 0), (0, .ref h0), (1, .int v1_6)]) hx hb dX2_instructionsHold_19 rfl hl (by decide) rfl (fun ls hl => ?_)
        have J_20 : ∀ (n9 : Nat) (v2_34 : Int32) (H : Heap) (locs : List Loc) (ls : Array Slot), (4000 - v2_34.toInt).toNat = n9 → 0 ≤ v2_34.toInt ∧ v2_34.toInt ≤ 4000 → wfS g ws_20 h0 v1_6 v2_34 → va_P (gD g) cl0 ws_20 H → va_D A ws_20 → va_S A s.heap H locs → lv_has ls 3 [(0, .ref h0), (1, .int v1_6), (2, .int v2_34)] → W p l e (headSpec (wt yX2_instructionsHold cX2_instructionsHold 3 (some .boolean)) ({ frames := 4, cells := 0, slots := 0, locals := 88 })).room s m ([.ref h0] : List Value).toArray below meth c H locs (0) (0) (MQ below (va_Qi (fun (r : Int32) (u9 : va_W) => (r = 0 ∨ r = 1) ∧ (r.toInt = 1 → wfA g u9 h0)) (gQ1 g [(2, 1), (2, 2), (2, 3), (2, 4), (2, 5), (2, 6), (6, 2), (6, 3)] [] none A ws) A) ([.ref h0] : List Value).toArray s (0) (0) A) (F0 m 20 ls []) := by
          intro n9
          induction n9 using Nat.strongRecOn with
          | ind n9 ih_20 =>
            intro v2_34 H locs ls hm9 iv_35 jx_20_0 hP hD hS hl
            subst hm9
            refine lv_iload_n hx hb dX2_instructionsHold_20 rfl (lv_at hl 2 rfl) ?_
            refine lv_aload_n hx hb dX2_instructionsHold_21 rfl (lv_at hl 0 rfl) ?_
            obtain ⟨fs9, hk_38, hq_38⟩ := ((gF.a (F' := [(2, 1), (2, 2), (2, 3), (2, 4), (2, 5), (2, 6)]) Fr_22 (fun _ h => h))) _ _ _ hk_17
            obtain ⟨r0_38, c1_38, c2_38, c3_38, c4_38, c5_38, c6_38, r7_38, n7_38, c8_38, c9_38, l10_38, c11_38, rfl, o_r0_38, a_r7_38, f2_38, f3_38, f4_38, -⟩ := (hG.1 _ _ _ _ hk_38).hX2 rfl
            obtain rfl := fe_r (hq_38 0 (by decide))
            have o_r0_1 := o_r0_38
            have kq_39 := kf_26 _ _ _ hk_38 _ rfl
            refine va_get (D := gD g) (ci := 2) (v := .int c2_38) (C := RX2) (T := TX2) (N := 12) hx hb hts inX2 hown hK hP k_1 hk_38 rfl 2 (by decide) (hts _ kw_716) (fun _ h9 => h9) rfl dX2_instructionsHold_22 ?_
            refine lv_icmp_ge (tgt := 63) hx hb dX2_instructionsHold_25 (by decide) (fun c_40 => ?_) (fun c_40 => ?_)
            · obtain ⟨z_41, ez_41⟩ : ∃ z : Int32, v1_6 + Int32.ofInt 1 = z := ⟨_, rfl⟩
              refine lv_iinc (v := z_41) (lv' := [(1, .int z_41), (0, .ref h0), (2, .int v2_34)]) hx hb dX2_instructionsHold_63 hl (k := 1) rfl ez_41 (by decide) rfl (fun ls hl => ?_)
              have tq_42 : wfP g ws_20 h0 z_41 := wfP_s (m := v1_6) (o := v2_34) (by have q_iv_7 := iv_7; have q_c_19 := i_nle c_19; obtain ⟨u_z_41, q_z_41⟩ := i_iz ez_41 (by decide) (by decide); have g_c8_2 := i_rg c8_2; have g_v1_6 := i_rg v1_6; have g_z_41 := i_rg z_41; omega) (fun f9 e9 n9 c9 s9 q9 => by rw [vx_sz hD hk_38 rfl rfl rfl _ _ _ _ _ q9]; exact (by have q_iv_35 := iv_35; have q_f4_38 := f4_38; have q_c_40 := i_le c_40; have g_c2_38 := i_rg c2_38; have g_v2_34 := i_rg v2_34; omega)) jx_20_0
              refine lv_goto (tgt := 2) hx hb dX2_instructionsHold_66 (by decide) ?_
              exact ih_2 _ (by obtain ⟨u_z_41, q_z_41⟩ := i_iz ez_41 (by decide) (by decide); have q_iv_7 := iv_7; have q_c_19 := i_nle c_19; have g_c8_2 := i_rg c8_2; have g_v1_6 := i_rg v1_6; have g_z_41 := i_rg z_41; omega) (z_41) ws_20 H locs ls rfl (by obtain ⟨u_z_41, q_z_41⟩ := i_iz ez_41 (by decide) (by decide); have q_iv_7 := iv_7; have q_c_19 := i_nle c_19; have g_c8_2 := i_rg c8_2; have g_v1_6 := i_rg v1_6; have g_z_41 := i_rg z_41; omega) ((E_9.tr E_21)) ((gF.tr Fr_10 Fr_22)) hG tq_42 hP hD hS (lv_sub hl [1, 0] rfl)
            · refine lv_aload_n hx hb dX2_instructionsHold_28 rfl (lv_at hl 0 rfl) ?_
              refine lv_iload_n hx hb dX2_instructionsHold_29 rfl (lv_at hl 2 rfl) ?_
              have hFc := gfree hD hS hA
              refine va_calli (va_runV (As := [.int v2_34]) (rest := []) ⟨hx, hb, hml, hown, hts⟩ (m_X2_lengthAt_x l g H.size ws_20 h0 (v2_34) hG o_h0) (cwV 1 hts (gd_V kw_717 kw_723 kw_724 kw_389 kw_722) rfl rfl rfl (by decide +kernel) ⟨Nat.le_of_ble_eq_true rfl, Nat.le_of_ble_eq_true rfl⟩) ⟨gblind, va_recv hK hP (ci := 2) (q0 := k_1) rfl hk_38, fun U hU hW9 => gmk hU hW9 hP hK hD hex hE hS hFc⟩ rfl rfl hl.1 rfl (lv_room (Nat.le_of_ble_eq_true rfl)) dX2_instructionsHold_30 ⟨Nat.le_of_ble_eq_true rfl, Nat.le_of_ble_eq_true rfl⟩) hS (fun q _ h => hFc q h) hFc (fun r_43 u9 t9 H1 locs ht9 hvm9 hw9 hB9 hz9 hk9 hS => ?_)
              have hP : va_P (gD g) cl0 ws_20 H1 := by rw [← ht9]; exact hB9.1
              obtain ⟨hw9, xp_44⟩ := hw9
              have h_r_43 := hw9
              clear hB9 hz9 hk9 hvm9 ht9 hw9
              generalize H1 = H at hP hS ⊢
              refine lv_if_gt (tgt := 52) hx hb dX2_instructionsHold_33 (by decide) (fun c_45 => ?_) (fun c_45 => ?_)
              · refine lv_iload_n hx hb dX2_instructionsHold_52 rfl (lv_at hl 2 rfl) ?_
                refine lv_aload_n hx hb dX2_instructionsHold_53 rfl (lv_at hl 0 rfl) ?_
                refine lv_iload_n hx hb dX2_instructionsHold_54 rfl (lv_at hl 2 rfl) ?_
                have hFc := gfree hD hS hA
                refine va_calli (va_runV (As := [.int v2_34]) (rest := [.int v2_34]) ⟨hx, hb, hml, hown, hts⟩ (m_X2_lengthAt_x l g H.size ws_20 h0 (v2_34) hG o_h0) (cwV 1 hts (gd_V kw_717 kw_723 kw_724 kw_389 kw_722) rfl rfl rfl (by decide +kernel) ⟨Nat.le_of_ble_eq_true rfl, Nat.le_of_ble_eq_true rfl⟩) ⟨gblind, va_recv hK hP (ci := 2) (q0 := k_1) rfl hk_38, fun U hU hW9 => gmk hU hW9 hP hK hD hex hE hS hFc⟩ rfl rfl hl.1 rfl (lv_room (Nat.le_of_ble_eq_true rfl)) dX2_instructionsHold_55 ⟨Nat.le_of_ble_eq_true rfl, Nat.le_of_ble_eq_true rfl⟩) hS (fun q _ h => hFc q h) hFc (fun r_46 u9 t9 H1 locs ht9 hvm9 hw9 hB9 hz9 hk9 hS => ?_)
                have hP : va_P (gD g) cl0 ws_20 H1 := by rw [← ht9]; exact hB9.1
                obtain ⟨hw9, xp_47⟩ := hw9
                have h_r_46 := hw9
                clear hB9 hz9 hk9 hvm9 ht9 hw9
                generalize H1 = H at hP hS ⊢
                obtain ⟨fs9, hk_48, hq_48⟩ := ((gF.a (F' := [(2, 1), (2, 2), (2, 3), (2, 4), (2, 5), (2, 6)]) Fr_22 (fun _ h => h))) _ _ _ hk_18
                obtain ⟨r0_48, n0_48, c1_48, c2_48, c3_48, r4_48, n4_48, c5_48, c6_48, c7_48, c8_48, r9_48, n9_48, r10_48, n10_48, r11_48, n11_48, c12_48, c13_48, c14_48, c15_48, c16_48, rfl, a_r0_48, f1_48, a_r4_48, f3_48, a_r9_48, f5_48, a_r10_48, f7_48, a_r11_48, f9_48, f10_48, f11_48, f12_48, f13_48, f14_48, -⟩ := (hG.1 _ _ _ _ hk_48).hX7 rfl
                obtain rfl := fe_i (hq_48 8 (by decide))
                obtain ⟨k_49, f_49, hk_49⟩ := gI_of a_r0_48
                have ih_50 : r_46.toInt = r_43.toInt := (by have v9 : vx ws_20 h0 _ _ _ _ _ := ⟨_, _, _, hk_38, rfl, rfl, rfl, _, _, _, _, _, hk_48, rfl, rfl, hk_49⟩; rw [xp_47 _ _ _ _ _ v9, xp_44 _ _ _ _ _ v9])
                refine lv_iadd hx hb dX2_instructionsHold_58 ?_
                refine lv_topi (fun z_51 ez_51 => ?_)
                have tq_52 : wfS g ws_20 h0 v1_6 z_51 := wfS_st xp_47 (by have e0 : (0 : Int32).toInt = 0 := (by decide); have q_iv_35 := iv_35; have q_c_40 := i_nle c_40; have q_r_43 := h_r_43; have q_r_46 := h_r_46; have q_ih_50 := ih_50; obtain ⟨u_z_51, q_z_51⟩ := i_add ez_51; have q_f4_38 := f4_38; have q_c_45 := i_lt c_45; have g_c2_38 := i_rg c2_38; have g_r_43 := i_rg r_43; have g_r_46 := i_rg r_46; have g_v2_34 := i_rg v2_34; have g_z_51 := i_rg z_51; omega) ez_51 (fun f9 e9 n9 c9 s9 q9 => by rw [vx_sz hD hk_38 rfl rfl rfl _ _ _ _ _ q9]; exact (by have e0 : (0 : Int32).toInt = 0 := (by decide); have q_iv_35 := iv_35; have q_f4_38 := f4_38; have q_c_40 := i_nle c_40; have q_r_43 := h_r_43; have q_r_46 := h_r_46; obtain ⟨u_z_51, q_z_51⟩ := i_add ez_51; have q_c_45 := i_lt c_45; have q_ih_50 := ih_50; have g_c2_38 := i_rg c2_38; have g_r_43 := i_rg r_43; have g_r_46 := i_rg r_46; have g_v2_34 := i_rg v2_34; have g_z_51 := i_rg z_51; omega)) jx_20_0
                refine lv_istore_n (lv' := [(2, .int z_51), (0, .ref h0), (1, .int v1_6)]) hx hb dX2_instructionsHold_59 rfl hl (by decide) rfl (fun ls hl => ?_)
                refine lv_goto (tgt := 20) hx hb dX2_instructionsHold_60 (by decide) ?_
                exact ih_20 _ (by have e0 : (0 : Int32).toInt = 0 := (by decide); obtain ⟨u_z_51, q_z_51⟩ := i_add ez_51; have q_iv_35 := iv_35; have q_c_40 := i_nle c_40; have q_r_43 := h_r_43; have q_r_46 := h_r_46; have q_ih_50 := ih_50; have q_f4_38 := f4_38; have q_c_45 := i_lt c_45; have g_c2_38 := i_rg c2_38; have g_r_43 := i_rg r_43; have g_r_46 := i_rg r_46; have g_v2_34 := i_rg v2_34; have g_z_51 := i_rg z_51; omega) (z_51) H locs ls rfl (by have e0 : (0 : Int32).toInt = 0 := (by decide); have q_iv_7 := iv_7; have q_c_19 := i_nle c_19; obtain ⟨u_z_51, q_z_51⟩ := i_add ez_51; have q_iv_35 := iv_35; have q_c_40 := i_nle c_40; have q_r_43 := h_r_43; have q_r_46 := h_r_46; have q_ih_50 := ih_50; have q_f4_38 := f4_38; have q_c_45 := i_lt c_45; have g_c2_38 := i_rg c2_38; have g_c8_2 := i_rg c8_2; have g_r_43 := i_rg r_43; have g_r_46 := i_rg r_46; have g_v1_6 := i_rg v1_6; have g_v2_34 := i_rg v2_34; have g_z_51 := i_rg z_51; omega) tq_52 hP hD hS (lv_sub hl [1, 2, 0] rfl)
              · refine lv_aload_n hx hb dX2_instructionsHold_36 rfl (lv_at hl 0 rfl) ?_
                refine va_get (D := gD g) (ci := 2) (v := .ref r0_1) (C := RX2) (T := TX2) (N := 12) hx hb hts inX2 hown hK hP k_1 hk_38 rfl 0 (by decide) (hts _ kw_632) (fun _ h9 => h9) rfl dX2_instructionsHold_37 ?_
                refine lv_bipush (v := 15) hx hb dX2_instructionsHold_40 (by decide) ?_
                refine lv_aload_n hx hb dX2_instructionsHold_42 rfl (lv_at hl 0 rfl) ?_
                refine va_get (D := gD g) (ci := 2) (v := .int c1_38) (C := RX2) (T := TX2) (N := 12) hx hb hts inX2 hown hK hP k_1 hk_38 rfl 1 (by decide) (hts _ kw_718) (fun _ h9 => h9) rfl dX2_instructionsHold_43 ?_
                refine lv_iload_n hx hb dX2_instructionsHold_46 rfl (lv_at hl 2 rfl) ?_
                refine lv_iadd hx hb dX2_instructionsHold_47 ?_
                refine lv_topi (fun z_53 ez_53 => ?_)
                have hFc := gfree hD hS hA
                obtain ⟨k_54, fs_54, hk_54⟩ := gC_of o_r0_1
                refine va_calli (va_runV (As := [.int 15, .int z_53]) (rest := []) ⟨hx, hb, hml, hown, hts⟩ (m_X7_breaks_z l g H.size ws_20 r0_1 (15) (z_53) hG o_r0_1) (cwV 2 hts (gd_V kw_677 kw_1278 kw_1279 kw_710 kw_1277) rfl rfl rfl (by decide +kernel) ⟨Nat.le_of_ble_eq_true rfl, Nat.le_of_ble_eq_true rfl⟩) ⟨gblind, va_recv hK hP (ci := 6) (q0 := k_54) rfl hk_54, fun U hU hW9 => gmk hU hW9 hP hK hD hex hE hS hFc⟩ rfl rfl hl.1 rfl (lv_room (Nat.le_of_ble_eq_true rfl)) dX2_instructionsHold_48 ⟨Nat.le_of_ble_eq_true rfl, Nat.le_of_ble_eq_true rfl⟩) hS (fun q _ h => hFc q h) hFc (fun r_55 ws_56 t9 H1 locs ht9 hvm9 hw9 hB9 hz9 hk9 hS => ?_)
                obtain ⟨E_57, Fr_58, hG, hP1, hD1⟩ := hB9
                have hP : va_P (gD g) cl0 ws_56 H1 := by rw [← ht9]; exact hP1
                have hD : va_D A ws_56 := hD1.weaken (fun _ _ _ h => hFc _ h)
                obtain ⟨hw9, xp_61⟩ := hw9
                have hz_r_55 : r_55 = 0 ∨ r_55 = 1 := hw9
                clear hP1 hD1 hz9 hk9 hvm9 ht9 hw9
                generalize H1 = H at hP hS ⊢
                have aa_62 := a_r7_38
                have o_h0 := E_57.1 _ _ o_h0
                refine W.widen (k := 0) (n := 0) (Nat.le_of_ble_eq_true rfl) (Nat.le_of_ble_eq_true rfl) ?_
                exact W.zret (v := r_55) hx hb hr (nz hz_r_55) (fun t9 ht9 hW9 => ⟨⟨_, ws_56, rfl, ⟨hz_r_55, (fun h9 => absurd h9 (by have q9 := xp_61; omega))⟩, ⟨(E_9.tr (E_21.tr E_57)), (gF.tr (gF.mo (F' := [(2, 1), (2, 2), (2, 3), (2, 4), (2, 5), (2, 6), (6, 2), (6, 3)]) (C' := []) (S' := none) Fr_10 (by decide) (fun _ h => h) (Or.inr rfl)) (gF.tr (gF.mo (F' := [(2, 1), (2, 2), (2, 3), (2, 4), (2, 5), (2, 6), (6, 2), (6, 3)]) (C' := []) (S' := none) Fr_22 (by decide) (fun _ h => h) (Or.inr rfl)) (gF.mo (F' := [(2, 1), (2, 2), (2, 3), (2, 4), (2, 5), (2, 6), (6, 2), (6, 3)]) (C' := []) (S' := none) Fr_58 (by decide) (fun _ h => h) (Or.inr rfl)))), hG, by rw [ht9]; exact hP, hD⟩⟩, hS.F ht9⟩) hS.2.2 dX2_instructionsHold_51
        exact J_20 _ (0) H locs ls rfl (by have e0 : (0 : Int32).toInt = 0 := (by decide); have q_iv_7 := iv_7; have q_c_19 := i_nle c_19; have g_c8_2 := i_rg c8_2; have g_v1_6 := i_rg v1_6; omega) tq_33 hP hD hS (lv_sub hl [1, 2, 0] rfl)
  exact J_2 _ (0) ws _ _ ls rfl (by have e0 : (0 : Int32).toInt = 0 := (by decide); omega) (gE.rf) (gF.rf) hG tq_5 hP hD hS (lv_sub hl [1, 0] rfl)
