set_option maxHeartbeats 1000000 in
set_option maxRecDepth 100000 in
theorem m_X5_leave (l : Launch) (g : Gm) (sz : Nat) (ws : va_W) (h0 : Nat) (x1 : Int32) (hG : Good g ws) (o_h0 : gC ws h0 5) (nn_h0_0 : gN ws h0 0) : Met l yX5_leave (wt yX5_leave cX5_leave 5 none) ({ frames := 2, cells := 0, slots := 0, locals := 46 }) (va_Pc [.ref h0, .int x1] (st_G g sz ws)) (va_Qv (fun (u9 : va_W) => True) (gQ1 g [(5, 11), (5, 12), (5, 13), (5, 14), (5, 15), (5, 16), (5, 19)] (va_A ws sz) ws) (va_A ws sz)) (0) (0) (va_A ws sz) := by
  refine Met.ofW (cc := cX5_leave) (maxL := 5) (ret := none) (by decide) rfl ?_
  intro p e s m args below meth c s₁ B hml hv
  obtain ⟨rfl, hsz, hP, hK, hD0, hex, hE⟩ := hv
  have hx := B.exec
  have hb := B.bytes
  have hr := B.returns
  have hts0 := atoms_spec (ws := wt yX5_leave cX5_leave 5 none) B.pre
  have hts : ∀ w ∈ tb, w.before _ s = true := fun w h => hts0 w (List.mem_cons_of_mem _ h)
  have hown : s.vm.findClass RX5 = some m.cls := findClass_of_methodNamed B.named
  subst hsz
  have hD := hD0.self (sz := s.heap.size)
  generalize hAe : va_A ws s.heap.size = A at hD hE ⊢
  have hA : ∀ q : Nat, s.heap.size ≤ q → A q := fun q h => by rw [← hAe]; exact Or.inr h
  have hS : va_S A s.heap s.heap [] := va_S.rf
  have hl := lv_entry ([.ref h0, .int x1]) (n := 5) (Nat.le_of_ble_eq_true rfl)
  rw [lg_entry_eq]
  generalize (lg_sl ([.ref h0, .int x1]) ++ List.replicate (5 - (lg_sl ([.ref h0, .int x1])).length) Slot.unset).toArray = ls at hl ⊢
  have hl : lv_has ls 5 [(0, .ref h0), (1, .int x1)] := hl
  obtain ⟨k_1, fs9, hk_1⟩ := gC_of o_h0
  obtain ⟨v0_1, r1_1, n1_1, r2_1, n2_1, c3_1, r4_1, n4_1, c5_1, r6_1, n6_1, c7_1, r8_1, n8_1, r9_1, n9_1, r10_1, n10_1, c11_1, v12_1, c13_1, c14_1, c15_1, l16_1, c17_1, c18_1, c19_1, rfl, o_v0_1, a_r1_1, f2_1, a_r2_1, f4_1, a_r4_1, f6_1, a_r6_1, f8_1, a_r8_1, f10_1, a_r9_1, f12_1, a_r10_1, f14_1, o_v12_1, f16_1, f17_1, f18_1, f19_1, f20_1, -⟩ := (hG.1 _ _ _ _ hk_1).hX5 rfl
  obtain ⟨b_2, hn9⟩ := nn_h0_0 _ _ _ hk_1
  have hn9 := fe_qr hn9
  subst hn9
  have o_b_2 := o_v0_1 _ rfl
  refine lv_iload_n hx hb dX5_leave_0 rfl (lv_at hl 1 rfl) ?_
  have hFc := gfree hD hS hA
  refine va_calli (va_runS (As := [.int x1]) (rest := []) ⟨hx, hb, hml, hown, hts⟩ (m_X6_takes l g s.heap.size ws (x1) hG ) (va_cwS 1 hts (gd_S kw_1014 kw_1255 kw_1207 kw_1254) rfl rfl rfl (by decide +kernel) ⟨Nat.le_of_ble_eq_true rfl, Nat.le_of_ble_eq_true rfl⟩) ⟨gblind, fun U hU hW9 => gmk hU hW9 hP hK hD hex hE hS hFc⟩ rfl rfl hl.1 rfl (lv_room (Nat.le_of_ble_eq_true rfl)) dX5_leave_1 ⟨Nat.le_of_ble_eq_true rfl, Nat.le_of_ble_eq_true rfl⟩) hS (fun q _ h => hFc q h) hFc (fun r_3 u9 t9 H1 locs ht9 hvm9 hw9 hB9 hz9 hk9 hS => ?_)
  have hP : va_P (gD g) cl0 ws H1 := by rw [← ht9]; exact hB9.1
  clear hB9 hz9 hk9 hvm9 ht9 hw9
  generalize H1 = H at hP hS ⊢
  refine lv_istore_n (lv' := [(2, .int r_3), (0, .ref h0), (1, .int x1)]) hx hb dX5_leave_4 rfl hl (by decide) rfl (fun ls hl => ?_)
  refine lv_aload_n hx hb dX5_leave_5 rfl (lv_at hl 1 rfl) ?_
  refine lv_iload_n hx hb dX5_leave_6 rfl (lv_at hl 0 rfl) ?_
  have hFc := gfree hD hS hA
  refine va_calll (va_runV (As := [.int r_3]) (rest := []) ⟨hx, hb, hml, hown, hts⟩ (m_X5_pop_ l g H.size ws h0 (r_3) hG o_h0) (cwV 1 hts (gd_V kw_1015 kw_1127 kw_1128 kw_398 kw_1126) rfl rfl rfl (by decide +kernel) ⟨Nat.le_of_ble_eq_true rfl, Nat.le_of_ble_eq_true rfl⟩) ⟨gblind, va_recv hK hP (ci := 5) (q0 := k_1) rfl hk_1, fun U hU hW9 => gmk hU hW9 hP hK hD hex hE hS hFc⟩ rfl rfl hl.1 rfl (lv_room (Nat.le_of_ble_eq_true rfl)) dX5_leave_7 ⟨Nat.le_of_ble_eq_true rfl, Nat.le_of_ble_eq_true rfl⟩) hS (fun q _ h => hFc q h) hFc (fun r_4 ws_5 t9 H1 locs ht9 hvm9 hw9 hB9 hz9 hk9 hS => ?_)
  obtain ⟨E_6, Fr_7, hG, hP1, hD1⟩ := hB9
  have hP : va_P (gD g) cl0 ws_5 H1 := by rw [← ht9]; exact hP1
  have hD : va_D A ws_5 := hD1.weaken (fun _ _ _ h => hFc _ h)
  clear hP1 hD1 hz9 hk9 hvm9 ht9 hw9
  generalize H1 = H at hP hS ⊢
  have aa_10 := a_r1_1
  have aa_11 := a_r2_1
  have aa_12 := a_r4_1
  have aa_13 := a_r6_1
  have aa_14 := a_r8_1
  have aa_15 := a_r9_1
  have aa_16 := a_r10_1
  have o_h0 := E_6 _ _ o_h0
  refine lv_lstore_n (lv' := [(3, .long r_4), (2, .int r_3), (0, .ref h0), (1, .int x1)]) hx hb dX5_leave_10 rfl hl (by decide) rfl (fun ls hl => ?_)
  refine lv_aload_n hx hb dX5_leave_11 rfl (lv_at hl 2 rfl) ?_
  obtain ⟨fs9, hk_17, hq_17⟩ := (Fr_7).1 _ _ _ _ hk_1
  obtain ⟨v0_17, r1_17, n1_17, r2_17, n2_17, c3_17, r4_17, n4_17, c5_17, r6_17, n6_17, c7_17, r8_17, n8_17, r9_17, n9_17, r10_17, n10_17, c11_17, v12_17, c13_17, c14_17, c15_17, l16_17, c17_17, c18_17, c19_17, rfl, o_v0_17, a_r1_17, f2_17, a_r2_17, f4_17, a_r4_17, f6_17, a_r6_17, f8_17, a_r8_17, f10_17, a_r9_17, f12_17, a_r10_17, f14_17, o_v12_17, f16_17, f17_17, f18_17, f19_17, f20_17, -⟩ := (hG.1 _ _ _ _ hk_17).hX5 rfl
  have hn9 := fe_qr (hq_17 0 (by decide))
  subst hn9
  have o_b_2 := o_v0_17 _ rfl
  obtain rfl := fe_i (hq_17 11 (by decide))
  obtain rfl := fe_q (hq_17 12 (by decide))
  have o_v12_1 := o_v12_17
  obtain rfl := fe_i (hq_17 13 (by decide))
  refine va_get (D := gD g) (ci := 5) (v := .int c11_1) (C := RX5) (T := TX5) (N := 20) hx hb hts inX5 hown hK hP k_1 hk_17 rfl 11 (by decide) (hts _ kw_1025) (fun _ h9 => h9) rfl dX5_leave_12 ?_
  refine lv_if_ne (tgt := 29) hx hb dX5_leave_15 (by decide) (fun c_18 => ?_) (fun c_18 => ?_)
  · refine lv_aload_n hx hb dX5_leave_29 rfl (lv_at hl 2 rfl) ?_
    have hFc := gfree hD hS hA
    refine va_callv (va_runV (As := []) (rest := []) ⟨hx, hb, hml, hown, hts⟩ (m_X5_closeFrame l g H.size ws_5 h0 hG o_h0 (gN_of hD hk_17 (j := 0) rfl)) (cwV 0 hts (gd_V kw_1086 kw_1023 kw_1024 kw_398 kw_1022) rfl rfl rfl (by decide +kernel) ⟨Nat.le_of_ble_eq_true rfl, Nat.le_of_ble_eq_true rfl⟩) ⟨gblind, va_recv hK hP (ci := 5) (q0 := k_1) rfl hk_17, fun U hU hW9 => gmk hU hW9 hP hK hD hex hE hS hFc⟩ rfl rfl hl.1 rfl (lv_room (Nat.le_of_ble_eq_true rfl)) dX5_leave_30 ⟨Nat.le_of_ble_eq_true rfl, Nat.le_of_ble_eq_true rfl⟩) hS (fun q _ h => hFc q h) hFc (fun  ws_19 t9 H1 locs ht9 hvm9 hw9 hB9 hz9 hk9 hS => ?_)
    obtain ⟨E_20, Fr_21, hG, hP1, hD1⟩ := hB9
    have hP : va_P (gD g) cl0 ws_19 H1 := by rw [← ht9]; exact hP1
    have hD : va_D A ws_19 := hD1.weaken (fun _ _ _ h => hFc _ h)
    clear hP1 hD1 hz9 hk9 hvm9 ht9 hw9
    generalize H1 = H at hP hS ⊢
    have aa_24 := a_r1_17
    have aa_25 := a_r2_17
    have aa_26 := a_r4_17
    have aa_27 := a_r6_17
    have aa_28 := a_r8_17
    have aa_29 := a_r9_17
    have aa_30 := a_r10_17
    have o_h0 := E_20 _ _ o_h0
    refine lv_aload_n hx hb dX5_leave_33 rfl (lv_at hl 2 rfl) ?_
    refine lv_iload_n hx hb dX5_leave_34 rfl (lv_at hl 1 rfl) ?_
    refine lv_lload_n hx hb dX5_leave_35 rfl (lv_at hl 0 rfl) ?_
    have hFc := gfree hD hS hA
    obtain ⟨k_31, fs_31, hk_31⟩ := gC_of o_h0
    refine va_callv (va_runV (As := [.int r_3, .long r_4]) (rest := []) ⟨hx, hb, hml, hown, hts⟩ (m_X5_push_ l g H.size ws_19 h0 (r_3) (r_4) hG o_h0) (cwV 2 hts (gd_V kw_1020 kw_1133 kw_1134 kw_398 kw_1132) rfl rfl rfl (by decide +kernel) ⟨Nat.le_of_ble_eq_true rfl, Nat.le_of_ble_eq_true rfl⟩) ⟨gblind, va_recv hK hP (ci := 5) (q0 := k_31) rfl hk_31, fun U hU hW9 => gmk hU hW9 hP hK hD hex hE hS hFc⟩ rfl rfl hl.1 rfl (lv_room (Nat.le_of_ble_eq_true rfl)) dX5_leave_36 ⟨Nat.le_of_ble_eq_true rfl, Nat.le_of_ble_eq_true rfl⟩) hS (fun q _ h => hFc q h) hFc (fun  ws_32 t9 H1 locs ht9 hvm9 hw9 hB9 hz9 hk9 hS => ?_)
    obtain ⟨E_33, Fr_34, hG, hP1, hD1⟩ := hB9
    have hP : va_P (gD g) cl0 ws_32 H1 := by rw [← ht9]; exact hP1
    have hD : va_D A ws_32 := hD1.weaken (fun _ _ _ h => hFc _ h)
    clear hP1 hD1 hz9 hk9 hvm9 ht9 hw9
    generalize H1 = H at hP hS ⊢
    have o_h0 := E_33 _ _ o_h0
    refine lv_aload_n hx hb dX5_leave_39 rfl (lv_at hl 2 rfl) ?_
    refine lv_dup hx hb dX5_leave_40 rfl ?_
    obtain ⟨fs9, hk_37, hq_37⟩ := ((gF.tr (gF.mo (F' := [(5, 11), (5, 12), (5, 13), (5, 14), (5, 19)]) Fr_21 (by decide)) (gF.mo (F' := [(5, 11), (5, 12), (5, 13), (5, 14), (5, 19)]) Fr_34 (by decide)))).1 _ _ _ _ hk_17
    obtain ⟨v0_37, r1_37, n1_37, r2_37, n2_37, c3_37, r4_37, n4_37, c5_37, r6_37, n6_37, c7_37, r8_37, n8_37, r9_37, n9_37, r10_37, n10_37, c11_37, v12_37, c13_37, c14_37, c15_37, l16_37, c17_37, c18_37, c19_37, rfl, o_v0_37, a_r1_37, f2_37, a_r2_37, f4_37, a_r4_37, f6_37, a_r6_37, f8_37, a_r8_37, f10_37, a_r9_37, f12_37, a_r10_37, f14_37, o_v12_37, f16_37, f17_37, f18_37, f19_37, f20_37, -⟩ := (hG.1 _ _ _ _ hk_37).hX5 rfl
    have hn9 := fe_qr (hq_37 0 (by decide))
    subst hn9
    have o_b_2 := o_v0_37 _ rfl
    refine va_get (D := gD g) (ci := 5) (v := .int c13_37) (C := RX5) (T := TX5) (N := 20) hx hb hts inX5 hown hK hP k_1 hk_37 rfl 13 (by decide) (hts _ kw_1021) (fun _ h9 => h9) rfl dX5_leave_41 ?_
    refine lv_iconst (v := 1) hx hb dX5_leave_44 (by decide) ?_
    refine lv_iadd hx hb dX5_leave_45 ?_
    refine lv_topi (fun z_38 ez_38 => ?_)
    refine va_put (D := gD g) (ci := 5) (v := .int z_38) (ty := .int) (C := RX5) (T := TX5) (N := 20) hx hb hts inX5 tyX5 tyX5_ok nmX5 hown hK hP hD hS k_1 hk_37 rfl 13 (by decide) (hts _ kw_1021) (fun _ h9 => h9) rfl (by decide +kernel) rfl rfl (Nat.le_of_ble_eq_true rfl) dX5_leave_46 (fun H locs hP hD hS => ?_)
    have hi_39 : invX5 g ws_32 h0 [.ref b_2, .ref r1_37, .ref r2_37, .int c3_37, .ref r4_37, .int c5_37, .ref r6_37, .int c7_37, .ref r8_37, .ref r9_37, .ref r10_37, .int c11_37, va_rf v12_37, .int z_38, .int c14_37, .int c15_37, .long l16_37, .int c17_37, .int c18_37, .int c19_37] := ⟨(some b_2), r1_37, (n1_37), r2_37, (n2_37), (c3_37), r4_37, (n4_37), (c5_37), r6_37, (n6_37), (c7_37), r8_37, (n8_37), r9_37, (n9_37), r10_37, (n10_37), (c11_37), v12_37, (z_38), (c14_37), (c15_37), (l16_37), (c17_37), (c18_37), (c19_37), rfl, (fun b h9 => by cases h9; exact o_b_2), a_r1_37, f2_37, a_r2_37, f4_37, a_r4_37, f6_37, a_r6_37, f8_37, a_r8_37, f10_37, a_r9_37, f12_37, a_r10_37, f14_37, o_v12_37, f16_37, f17_37, f18_37, f19_37, f20_37, trivial⟩
    obtain ⟨ws_40, e_ws_40⟩ : ∃ z, z = ws_32.set k_1 (h0, .inr (5, [.ref b_2, .ref r1_37, .ref r2_37, .int c3_37, .ref r4_37, .int c5_37, .ref r6_37, .int c7_37, .ref r8_37, .ref r9_37, .ref r10_37, .int c11_37, va_rf v12_37, .int z_38, .int c14_37, .int c15_37, .long l16_37, .int c17_37, .int c18_37, .int c19_37])) := ⟨_, rfl⟩
    have hP : va_P (gD g) cl0 ws_40 H := by rw [e_ws_40]; exact hP
    have hD : va_D A ws_40 := by rw [e_ws_40]; exact hD
    have E_41 : gE ws_32 ws_40 := gE_set e_ws_40 hk_37 rfl
    have hG : Good g ws_40 := Good_set e_ws_40 hk_37 hG (ivX5 hi_39)
    have Fr_42 : gF [(5, 13)] ws_32 ws_40 := gF_put (fi := 13) (v := .int z_38) e_ws_40 hk_37 rfl (by decide)
    have hkN := gset_self e_ws_40 hk_37
    have hk_37 := hkN
    have o_h0 := E_41 _ _ o_h0
    have a_r1_37 := E_41 _ _ a_r1_37
    have a_r2_37 := E_41 _ _ a_r2_37
    have a_r4_37 := E_41 _ _ a_r4_37
    have a_r6_37 := E_41 _ _ a_r6_37
    have a_r8_37 := E_41 _ _ a_r8_37
    have a_r9_37 := E_41 _ _ a_r9_37
    have a_r10_37 := E_41 _ _ a_r10_37
    have o_v12_37 : ∀ b, v12_37 = some b → gC ws_40 b 7 := fun b h => E_41 _ _ (o_v12_37 b h)
    have o_b_2 := E_41 _ _ o_b_2
    refine W.widen (k := 0) (n := 0) (Nat.le_of_ble_eq_true rfl) (Nat.le_of_ble_eq_true rfl) ?_
    exact W.vret hx hb hr (fun t9 ht9 hW9 => ⟨⟨ws_40, rfl, trivial, ⟨(E_6.tr (E_20.tr (E_33.tr E_41))), (gF.tr (gF.mo (F' := [(5, 11), (5, 12), (5, 13), (5, 14), (5, 15), (5, 16), (5, 19)]) Fr_7 (by decide)) (gF.tr (gF.mo (F' := [(5, 11), (5, 12), (5, 13), (5, 14), (5, 15), (5, 16), (5, 19)]) Fr_21 (by decide)) (gF.tr (gF.mo (F' := [(5, 11), (5, 12), (5, 13), (5, 14), (5, 15), (5, 16), (5, 19)]) Fr_34 (by decide)) (gF.mo (F' := [(5, 11), (5, 12), (5, 13), (5, 14), (5, 15), (5, 16), (5, 19)]) Fr_42 (by decide))))), hG, by rw [ht9]; exact hP, hD⟩⟩, hS.F ht9⟩) hS.2.2 dX5_leave_49
  · refine lv_aload_n hx hb dX5_leave_18 rfl (lv_at hl 2 rfl) ?_
    refine lv_iconst (v := 0) hx hb dX5_leave_19 (by decide) ?_
    refine va_put (D := gD g) (ci := 5) (v := .int 0) (ty := .int) (C := RX5) (T := TX5) (N := 20) hx hb hts inX5 tyX5 tyX5_ok nmX5 hown hK hP hD hS k_1 hk_17 rfl 15 (by decide) (hts _ kw_1041) (fun _ h9 => h9) rfl (by decide +kernel) rfl rfl (Nat.le_of_ble_eq_true rfl) dX5_leave_20 (fun H locs hP hD hS => ?_)
    have hi_43 : invX5 g ws_5 h0 [.ref b_2, .ref r1_17, .ref r2_17, .int c3_17, .ref r4_17, .int c5_17, .ref r6_17, .int c7_17, .ref r8_17, .ref r9_17, .ref r10_17, .int c11_1, va_rf v12_1, .int c13_1, .int c14_17, .int 0, .long l16_17, .int c17_17, .int c18_17, .int c19_17] := ⟨(some b_2), r1_17, (n1_17), r2_17, (n2_17), (c3_17), r4_17, (n4_17), (c5_17), r6_17, (n6_17), (c7_17), r8_17, (n8_17), r9_17, (n9_17), r10_17, (n10_17), (c11_1), v12_1, (c13_1), (c14_17), (0), (l16_17), (c17_17), (c18_17), (c19_17), rfl, (fun b h9 => by cases h9; exact o_b_2), a_r1_17, f2_17, a_r2_17, f4_17, a_r4_17, f6_17, a_r6_17, f8_17, a_r8_17, f10_17, a_r9_17, f12_17, a_r10_17, f14_17, o_v12_1, f16_17, f17_17, f18_17, f19_17, f20_17, trivial⟩
    obtain ⟨ws_44, e_ws_44⟩ : ∃ z, z = ws_5.set k_1 (h0, .inr (5, [.ref b_2, .ref r1_17, .ref r2_17, .int c3_17, .ref r4_17, .int c5_17, .ref r6_17, .int c7_17, .ref r8_17, .ref r9_17, .ref r10_17, .int c11_1, va_rf v12_1, .int c13_1, .int c14_17, .int 0, .long l16_17, .int c17_17, .int c18_17, .int c19_17])) := ⟨_, rfl⟩
    have hP : va_P (gD g) cl0 ws_44 H := by rw [e_ws_44]; exact hP
    have hD : va_D A ws_44 := by rw [e_ws_44]; exact hD
    have E_45 : gE ws_5 ws_44 := gE_set e_ws_44 hk_17 rfl
    have hG : Good g ws_44 := Good_set e_ws_44 hk_17 hG (ivX5 hi_43)
    have Fr_46 : gF [(5, 15)] ws_5 ws_44 := gF_put (fi := 15) (v := .int 0) e_ws_44 hk_17 rfl (by decide)
    have hkN := gset_self e_ws_44 hk_17
    have hk_17 := hkN
    have o_h0 := E_45 _ _ o_h0
    have a_r1_17 := E_45 _ _ a_r1_17
    have a_r2_17 := E_45 _ _ a_r2_17
    have a_r4_17 := E_45 _ _ a_r4_17
    have a_r6_17 := E_45 _ _ a_r6_17
    have a_r8_17 := E_45 _ _ a_r8_17
    have a_r9_17 := E_45 _ _ a_r9_17
    have a_r10_17 := E_45 _ _ a_r10_17
    have o_b_2 := E_45 _ _ o_b_2
    have o_v12_1 : ∀ b, v12_1 = some b → gC ws_44 b 7 := fun b h => E_45 _ _ (o_v12_1 b h)
    refine lv_aload_n hx hb dX5_leave_23 rfl (lv_at hl 2 rfl) ?_
    refine lv_lload_n hx hb dX5_leave_24 rfl (lv_at hl 0 rfl) ?_
    refine va_put (D := gD g) (ci := 5) (v := .long r_4) (ty := .long) (C := RX5) (T := TX5) (N := 20) hx hb hts inX5 tyX5 tyX5_ok nmX5 hown hK hP hD hS k_1 hk_17 rfl 16 (by decide) (hts _ kw_1085) (fun _ h9 => h9) rfl (by decide +kernel) rfl rfl (Nat.le_of_ble_eq_true rfl) dX5_leave_25 (fun H locs hP hD hS => ?_)
    have hi_47 : invX5 g ws_44 h0 [.ref b_2, .ref r1_17, .ref r2_17, .int c3_17, .ref r4_17, .int c5_17, .ref r6_17, .int c7_17, .ref r8_17, .ref r9_17, .ref r10_17, .int c11_1, va_rf v12_1, .int c13_1, .int c14_17, .int 0, .long r_4, .int c17_17, .int c18_17, .int c19_17] := ⟨(some b_2), r1_17, (n1_17), r2_17, (n2_17), (c3_17), r4_17, (n4_17), (c5_17), r6_17, (n6_17), (c7_17), r8_17, (n8_17), r9_17, (n9_17), r10_17, (n10_17), (c11_1), v12_1, (c13_1), (c14_17), (0), (r_4), (c17_17), (c18_17), (c19_17), rfl, (fun b h9 => by cases h9; exact o_b_2), a_r1_17, f2_17, a_r2_17, f4_17, a_r4_17, f6_17, a_r6_17, f8_17, a_r8_17, f10_17, a_r9_17, f12_17, a_r10_17, f14_17, o_v12_1, f16_17, f17_17, f18_17, f19_17, f20_17, trivial⟩
    obtain ⟨ws_48, e_ws_48⟩ : ∃ z, z = ws_44.set k_1 (h0, .inr (5, [.ref b_2, .ref r1_17, .ref r2_17, .int c3_17, .ref r4_17, .int c5_17, .ref r6_17, .int c7_17, .ref r8_17, .ref r9_17, .ref r10_17, .int c11_1, va_rf v12_1, .int c13_1, .int c14_17, .int 0, .long r_4, .int c17_17, .int c18_17, .int c19_17])) := ⟨_, rfl⟩
    have hP : va_P (gD g) cl0 ws_48 H := by rw [e_ws_48]; exact hP
    have hD : va_D A ws_48 := by rw [e_ws_48]; exact hD
    have E_49 : gE ws_44 ws_48 := gE_set e_ws_48 hk_17 rfl
    have hG : Good g ws_48 := Good_set e_ws_48 hk_17 hG (ivX5 hi_47)
    have Fr_50 : gF [(5, 16)] ws_44 ws_48 := gF_put (fi := 16) (v := .long r_4) e_ws_48 hk_17 rfl (by decide)
    have hkN := gset_self e_ws_48 hk_17
    have hk_17 := hkN
    have o_h0 := E_49 _ _ o_h0
    have a_r1_17 := E_49 _ _ a_r1_17
    have a_r2_17 := E_49 _ _ a_r2_17
    have a_r4_17 := E_49 _ _ a_r4_17
    have a_r6_17 := E_49 _ _ a_r6_17
    have a_r8_17 := E_49 _ _ a_r8_17
    have a_r9_17 := E_49 _ _ a_r9_17
    have a_r10_17 := E_49 _ _ a_r10_17
    have o_b_2 := E_49 _ _ o_b_2
    have o_v12_1 : ∀ b, v12_1 = some b → gC ws_48 b 7 := fun b h => E_49 _ _ (o_v12_1 b h)
    refine W.widen (k := 0) (n := 0) (Nat.le_of_ble_eq_true rfl) (Nat.le_of_ble_eq_true rfl) ?_
    exact W.vret hx hb hr (fun t9 ht9 hW9 => ⟨⟨ws_48, rfl, trivial, ⟨(E_6.tr (E_45.tr E_49)), (gF.tr (gF.mo (F' := [(5, 11), (5, 12), (5, 13), (5, 14), (5, 15), (5, 16), (5, 19)]) Fr_7 (by decide)) (gF.tr (gF.mo (F' := [(5, 11), (5, 12), (5, 13), (5, 14), (5, 15), (5, 16), (5, 19)]) Fr_46 (by decide)) (gF.mo (F' := [(5, 11), (5, 12), (5, 13), (5, 14), (5, 15), (5, 16), (5, 19)]) Fr_50 (by decide)))), hG, by rw [ht9]; exact hP, hD⟩⟩, hS.F ht9⟩) hS.2.2 dX5_leave_28
