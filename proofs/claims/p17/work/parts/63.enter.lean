set_option maxHeartbeats 1000000 in
set_option maxRecDepth 100000 in
theorem m_X5_enter (l : Launch) (g : Gm) (sz : Nat) (ws : va_W) (h0 : Nat) (x1 : Int32) (hG : Good g ws) (o_h0 : gC ws h0 5) (nn_h0_0 : gN ws h0 0) (nn_h0_12 : gN ws h0 12) (tk0 : frP g ws h0) (tk1 : swU ws h0) (tk2 : swC ws h0) (tk3 : arP g ws h0) : Met l yX5_enter (wt yX5_enter cX5_enter 5 none) ({ frames := 2, cells := 0, slots := 0, locals := 43 }) (va_Pc [.ref h0, .int x1] (st_G g sz ws)) (va_Qv (fun (u9 : va_W) => (True) ∧ (gN u9 h0 0) ∧ (gN u9 h0 12) ∧ (frP g u9 h0) ∧ (swU u9 h0) ∧ (swC u9 h0) ∧ (arP g u9 h0)) (gQ1 g [(5, 11), (5, 12), (5, 13), (5, 14), (5, 15), (5, 19)] [(5, 8), (5, 10)] none (va_A ws sz) ws) (va_A ws sz)) (0) (0) (va_A ws sz) := by
  refine Met.ofW (cc := cX5_enter) (maxL := 5) (ret := none) (by decide) rfl ?_
  intro p e s m args below meth c s₁ B hml hv
  obtain ⟨rfl, hsz, hP, hK, hD0, hex, hE⟩ := hv
  have hx := B.exec
  have hb := B.bytes
  have hr := B.returns
  have hts0 := atoms_spec (ws := wt yX5_enter cX5_enter 5 none) B.pre
  have hts : ∀ w ∈ tb, w.before _ s = true := fun w h => hts0 w (List.mem_cons_of_mem _ h)
  have hown : s.vm.findClass RX5 = some m.cls := findClass_of_methodNamed B.named
  subst hsz
  have hD := hD0.self (sz := s.heap.size)
  generalize hAe : va_A ws s.heap.size = A at hD hE ⊢
  have hA : ∀ q : Nat, s.heap.size ≤ q → A q := fun q h => by rw [← hAe]; exact Or.inr h
  have hS : va_S A s.heap s.heap [] := va_S.rf
  have hl := lv_entry ([.ref h0, .int x1]) (n := 5) (Nat.le_of_ble_eq_true rfl)
  rw [lg_entry_eq]
  generalize (lg_sl ([.ref h0, .int x1]) ++ List.replicate (5 - (lg_sl ([.ref h0, .int x1])).length) Slot.unset).toArray = ls at hl ⊢
  have hl : lv_has ls 5 [(0, .ref h0), (1, .int x1)] := hl
  obtain ⟨k_1, fs9, hk_1⟩ := gC_of o_h0
  obtain ⟨v0_1, r1_1, n1_1, r2_1, n2_1, c3_1, r4_1, n4_1, c5_1, r6_1, n6_1, c7_1, r8_1, n8_1, r9_1, n9_1, r10_1, n10_1, c11_1, v12_1, c13_1, c14_1, c15_1, l16_1, c17_1, c18_1, c19_1, rfl, o_v0_1, F_v0_1, a_r1_1, f3_1, a_r2_1, f5_1, a_r4_1, f7_1, a_r6_1, f9_1, a_r8_1, f11_1, a_r9_1, f13_1, a_r10_1, f15_1, o_v12_1, f17_1, f18_1, f19_1, f20_1, f21_1, f22_1, f23_1, f24_1, f25_1, f26_1, f27_1, f28_1, f29_1, f30_1, f31_1, -⟩ := (hG.1 _ _ _ _ hk_1).hX5 rfl
  obtain ⟨b_2, hn9⟩ := nn_h0_0 _ _ _ hk_1
  have hn9 := fe_qr hn9
  subst hn9
  have o_b_2 := o_v0_1 _ rfl
  have F_b_2 := F_v0_1 _ rfl
  obtain ⟨b_3, hn9⟩ := nn_h0_12 _ _ _ hk_1
  have hn9 := fe_qr hn9
  subst hn9
  have o_b_3 := o_v12_1 _ rfl
  refine lv_aload_n hx hb dX5_enter_0 rfl (lv_at hl 0 rfl) ?_
  refine va_get (D := gD g) (ci := 5) (v := .int c11_1) (C := RX5) (T := TX5) (N := 20) hx hb hts inX5 hown hK hP k_1 hk_1 rfl 11 (by decide) (hts _ kw_1025) (fun _ h9 => h9) rfl dX5_enter_1 ?_
  refine lv_iconst (v := 1) hx hb dX5_enter_4 (by decide) ?_
  refine lv_iadd hx hb dX5_enter_5 ?_
  refine lv_topi (fun z_4 ez_4 => ?_)
  refine lv_bipush (v := 60) hx hb dX5_enter_6 (by decide) ?_
  refine lv_icmp_lt (tgt := 17) hx hb dX5_enter_8 (by decide) (fun c_5 => ?_) (fun c_5 => ?_)
  · refine lv_aload_n hx hb dX5_enter_17 rfl (lv_at hl 0 rfl) ?_
    refine va_get (D := gD g) (ci := 5) (v := .ref b_2) (C := RX5) (T := TX5) (N := 20) hx hb hts inX5 hown hK hP k_1 hk_1 rfl 0 (by decide) (hts _ kw_1027) (fun _ h9 => h9) rfl dX5_enter_18 ?_
    refine lv_iload_n hx hb dX5_enter_21 rfl (lv_at hl 1 rfl) ?_
    have hFc := gfree hD hS hA
    obtain ⟨k_6, fs_6, hk_6⟩ := gC_of o_b_2
    refine va_calli (va_runV (As := [.int x1]) (rest := []) ⟨hx, hb, hml, hown, hts⟩ (m_X10_takesOfMethod l g s.heap.size ws b_2 (x1) hG o_b_2) (cwV 1 hts (gd_V kw_1042 kw_78 kw_79 kw_34 kw_77) rfl rfl rfl (by decide +kernel) ⟨Nat.le_of_ble_eq_true rfl, Nat.le_of_ble_eq_true rfl⟩) ⟨gblind, va_recv hK hP (ci := 9) (q0 := k_6) rfl hk_6, fun U hU hW9 => gmk hU hW9 hP hK hD hex hE hS hFc⟩ rfl rfl hl.1 rfl (lv_room (Nat.le_of_ble_eq_true rfl)) dX5_enter_22 ⟨Nat.le_of_ble_eq_true rfl, Nat.le_of_ble_eq_true rfl⟩) hS (fun q _ h => hFc q h) hFc (fun r_7 u9 t9 H1 locs ht9 hvm9 hw9 hB9 hz9 hk9 hS => ?_)
    have hP : va_P (gD g) cl0 ws H1 := by rw [← ht9]; exact hB9.1
    clear hB9 hz9 hk9 hvm9 ht9 hw9
    generalize H1 = H at hP hS ⊢
    have hFc := gfree hD hS hA
    refine va_calli (va_runS (As := [.int r_7]) (rest := []) ⟨hx, hb, hml, hown, hts⟩ (m_X6_placesOf l g H.size ws (r_7) hG ) (va_cwS 1 hts (gd_S kw_1043 kw_1253 kw_1207 kw_1252) rfl rfl rfl (by decide +kernel) ⟨Nat.le_of_ble_eq_true rfl, Nat.le_of_ble_eq_true rfl⟩) ⟨gblind, fun U hU hW9 => gmk hU hW9 hP hK hD hex hE hS hFc⟩ rfl rfl hl.1 rfl (lv_room (Nat.le_of_ble_eq_true rfl)) dX5_enter_25 ⟨Nat.le_of_ble_eq_true rfl, Nat.le_of_ble_eq_true rfl⟩) hS (fun q _ h => hFc q h) hFc (fun r_8 u9 t9 H1 locs ht9 hvm9 hw9 hB9 hz9 hk9 hS => ?_)
    have hP : va_P (gD g) cl0 ws H1 := by rw [← ht9]; exact hB9.1
    have h_r_8 := hw9
    clear hB9 hz9 hk9 hvm9 ht9 hw9
    generalize H1 = H at hP hS ⊢
    refine lv_istore_n (lv' := [(2, .int r_8), (0, .ref h0), (1, .int x1)]) hx hb dX5_enter_28 rfl hl (by decide) rfl (fun ls hl => ?_)
    refine lv_aload_n hx hb dX5_enter_29 rfl (lv_at hl 1 rfl) ?_
    refine va_get (D := gD g) (ci := 5) (v := .int c11_1) (C := RX5) (T := TX5) (N := 20) hx hb hts inX5 hown hK hP k_1 hk_1 rfl 11 (by decide) (hts _ kw_1025) (fun _ h9 => h9) rfl dX5_enter_30 ?_
    refine lv_bipush (v := 24) hx hb dX5_enter_33 (by decide) ?_
    refine lv_imul hx hb dX5_enter_35 ?_
    refine lv_topi (fun z_9 ez_9 => ?_)
    refine lv_aload_n hx hb dX5_enter_36 rfl (lv_at hl 1 rfl) ?_
    refine va_get (D := gD g) (ci := 5) (v := .int c14_1) (C := RX5) (T := TX5) (N := 20) hx hb hts inX5 hown hK hP k_1 hk_1 rfl 14 (by decide) (hts _ kw_1031) (fun _ h9 => h9) rfl dX5_enter_37 ?_
    refine lv_iadd hx hb dX5_enter_40 ?_
    refine lv_topi (fun z_10 ez_10 => ?_)
    refine lv_iload_n hx hb dX5_enter_41 rfl (lv_at hl 0 rfl) ?_
    refine lv_isub hx hb dX5_enter_42 ?_
    refine lv_topi (fun z_11 ez_11 => ?_)
    refine lv_istore_n (lv' := [(3, .int z_11), (2, .int r_8), (0, .ref h0), (1, .int x1)]) hx hb dX5_enter_43 rfl hl (by decide) rfl (fun ls hl => ?_)
    refine lv_aload_n hx hb dX5_enter_44 rfl (lv_at hl 2 rfl) ?_
    refine va_get (D := gD g) (ci := 5) (v := .int c11_1) (C := RX5) (T := TX5) (N := 20) hx hb hts inX5 hown hK hP k_1 hk_1 rfl 11 (by decide) (hts _ kw_1025) (fun _ h9 => h9) rfl dX5_enter_45 ?_
    refine lv_iconst (v := 1) hx hb dX5_enter_48 (by decide) ?_
    refine lv_iadd hx hb dX5_enter_49 ?_
    refine lv_topi (fun z_12 ez_12 => ?_)
    refine lv_bipush (v := 24) hx hb dX5_enter_50 (by decide) ?_
    refine lv_imul hx hb dX5_enter_52 ?_
    refine lv_topi (fun z_13 ez_13 => ?_)
    refine lv_istore (lv' := [(4, .int z_13), (3, .int z_11), (2, .int r_8), (0, .ref h0), (1, .int x1)]) hx hb dX5_enter_53 hl (by decide) rfl (fun ls hl => ?_)
    refine lv_aload_n hx hb dX5_enter_55 rfl (lv_at hl 3 rfl) ?_
    refine va_get (D := gD g) (ci := 5) (v := .ref b_2) (C := RX5) (T := TX5) (N := 20) hx hb hts inX5 hown hK hP k_1 hk_1 rfl 0 (by decide) (hts _ kw_1027) (fun _ h9 => h9) rfl dX5_enter_56 ?_
    refine lv_iload_n hx hb dX5_enter_59 rfl (lv_at hl 4 rfl) ?_
    have hFc := gfree hD hS hA
    obtain ⟨k_14, fs_14, hk_14⟩ := gC_of o_b_2
    refine va_callq (va_runV (As := [.int x1]) (rest := []) ⟨hx, hb, hml, hown, hts⟩ (m_X10_rowAt l g H.size ws b_2 (x1) hG o_b_2) (cwV 1 hts (gd_V kw_1029 kw_70 kw_71 kw_34 kw_69) rfl rfl rfl (by decide +kernel) ⟨Nat.le_of_ble_eq_true rfl, Nat.le_of_ble_eq_true rfl⟩) ⟨gblind, va_recv hK hP (ci := 9) (q0 := k_14) rfl hk_14, fun U hU hW9 => gmk hU hW9 hP hK hD hex hE hS hFc⟩ rfl rfl hl.1 rfl (lv_room (Nat.le_of_ble_eq_true rfl)) dX5_enter_60 ⟨Nat.le_of_ble_eq_true rfl, Nat.le_of_ble_eq_true rfl⟩) hS (fun q _ h => hFc q h) hFc (fun r_15 u9 t9 H1 locs ht9 hvm9 hw9 hB9 hz9 hk9 hS => ?_)
    have hP : va_P (gD g) cl0 ws H1 := by rw [← ht9]; exact hB9.1
    obtain ⟨o_r_15, h_r_15⟩ := id hw9
    clear hB9 hz9 hk9 hvm9 ht9 hw9
    generalize H1 = H at hP hS ⊢
    have J_95 : ∀  (H : Heap) (locs : List Loc) (ls : Array Slot), va_P (gD g) cl0 ws H → va_D A ws → va_S A s.heap H locs → lv_has ls 5 [(0, .ref h0)] → W p l e (headSpec (wt yX5_enter cX5_enter 5 none) ({ frames := 2, cells := 0, slots := 0, locals := 43 })).room s m ([.ref h0, .int x1] : List Value).toArray below meth c H locs (0) (0) (MQ below (va_Qv (fun (u9 : va_W) => (True) ∧ (gN u9 h0 0) ∧ (gN u9 h0 12) ∧ (frP g u9 h0) ∧ (swU u9 h0) ∧ (swC u9 h0) ∧ (arP g u9 h0)) (gQ1 g [(5, 11), (5, 12), (5, 13), (5, 14), (5, 15), (5, 19)] [(5, 8), (5, 10)] none A ws) A) ([.ref h0, .int x1] : List Value).toArray s (0) (0) A) (F0 m 95 ls []) := by
      intro  H locs ls  hP hD hS hl
      refine lv_aload_n hx hb dX5_enter_95 rfl (lv_at hl 0 rfl) ?_
      refine lv_dup hx hb dX5_enter_96 rfl ?_
      refine va_get (D := gD g) (ci := 5) (v := .int c19_1) (C := RX5) (T := TX5) (N := 20) hx hb hts inX5 hown hK hP k_1 hk_1 rfl 19 (by decide) (hts _ kw_1045) (fun _ h9 => h9) rfl dX5_enter_97 ?_
      refine lv_iconst (v := 1) hx hb dX5_enter_100 (by decide) ?_
      refine lv_iadd hx hb dX5_enter_101 ?_
      refine lv_topi (fun z_18 ez_18 => ?_)
      have hV9 : okv ws 5 19 (.int z_18) := okv_i
      refine va_put (D := gD g) (ci := 5) (v := .int z_18) (ty := .int) (C := RX5) (T := TX5) (N := 20) hx hb hts inX5 tyX5 tyX5_ok nmX5 hown hK hP hD hS k_1 hk_1 rfl 19 (by decide) (hts _ kw_1045) (fun _ h9 => h9) rfl (by decide +kernel) rfl rfl (Nat.le_of_ble_eq_true rfl) dX5_enter_102 (fun H locs hP hD hS => ?_)
      have hi_19 : invX5 g ws h0 [.ref b_2, .ref r1_1, .ref r2_1, .int c3_1, .ref r4_1, .int c5_1, .ref r6_1, .int c7_1, .ref r8_1, .ref r9_1, .ref r10_1, .int c11_1, .ref b_3, .int c13_1, .int c14_1, .int c15_1, .long l16_1, .int c17_1, .int c18_1, .int z_18] := ⟨(some b_2), r1_1, (n1_1), r2_1, (n2_1), (c3_1), r4_1, (n4_1), (c5_1), r6_1, (n6_1), (c7_1), r8_1, (n8_1), r9_1, (n9_1), r10_1, (n10_1), (c11_1), (some b_3), (c13_1), (c14_1), (c15_1), (l16_1), (c17_1), (c18_1), (z_18), rfl, (fun b h9 => by cases h9; exact o_b_2), (fun b h9 => by cases h9; exact F_b_2), a_r1_1, f3_1, a_r2_1, f5_1, a_r4_1, f7_1, a_r6_1, f9_1, a_r8_1, f11_1, a_r9_1, f13_1, a_r10_1, f15_1, (fun b h9 => by cases h9; exact o_b_3), f17_1, f18_1, f19_1, f20_1, f21_1, f22_1, f23_1, f24_1, f25_1, f26_1, f27_1, f28_1, f29_1, f30_1, f31_1, trivial⟩
      obtain ⟨ws_20, e_ws_20⟩ : ∃ z, z = ws.set k_1 (h0, .inr (5, [.ref b_2, .ref r1_1, .ref r2_1, .int c3_1, .ref r4_1, .int c5_1, .ref r6_1, .int c7_1, .ref r8_1, .ref r9_1, .ref r10_1, .int c11_1, .ref b_3, .int c13_1, .int c14_1, .int c15_1, .long l16_1, .int c17_1, .int c18_1, .int z_18])) := ⟨_, rfl⟩
      have hP : va_P (gD g) cl0 ws_20 H := by rw [e_ws_20]; exact hP
      have hD : va_D A ws_20 := by rw [e_ws_20]; exact hD
      have E_21 : gE ws ws_20 := gE_set e_ws_20 hk_1 (cw_o (fi := 19) (v := .int z_18) rfl (by decide))
      have hG : Good g ws_20 := Good_set (fi := 19) (v := .int z_18) e_ws_20 hk_1 E_21 rfl hV9 hG (ivX5 hi_19)
      have Fr_22 : gF [(5, 19)] [] (some h0) ws ws_20 := gF_put (fi := 19) (v := .int z_18) e_ws_20 hk_1 rfl (by decide)
      have hkN := gset_self e_ws_20 hk_1
      have hk_1 := hkN
      have o_h0 := E_21.1 _ _ o_h0
      have a_r1_1 := E_21.1 _ _ a_r1_1
      have a_r2_1 := E_21.1 _ _ a_r2_1
      have a_r4_1 := E_21.1 _ _ a_r4_1
      have a_r6_1 := E_21.1 _ _ a_r6_1
      have a_r8_1 := E_21.1 _ _ a_r8_1
      have a_r9_1 := E_21.1 _ _ a_r9_1
      have a_r10_1 := E_21.1 _ _ a_r10_1
      have o_b_2 := E_21.1 _ _ o_b_2
      have F_b_2 := F_b_2.mo E_21
      have o_b_3 := E_21.1 _ _ o_b_3
      refine lv_aload_n hx hb dX5_enter_105 rfl (lv_at hl 0 rfl) ?_
      refine lv_dup hx hb dX5_enter_106 rfl ?_
      refine va_get (D := gD g) (ci := 5) (v := .int c13_1) (C := RX5) (T := TX5) (N := 20) hx hb hts inX5 hown hK hP k_1 hk_1 rfl 13 (by decide) (hts _ kw_1021) (fun _ h9 => h9) rfl dX5_enter_107 ?_
      refine lv_iconst (v := 1) hx hb dX5_enter_110 (by decide) ?_
      refine lv_iadd hx hb dX5_enter_111 ?_
      refine lv_topi (fun z_23 ez_23 => ?_)
      have hV9 : okv ws_20 5 13 (.int z_23) := okv_i
      refine va_put (D := gD g) (ci := 5) (v := .int z_23) (ty := .int) (C := RX5) (T := TX5) (N := 20) hx hb hts inX5 tyX5 tyX5_ok nmX5 hown hK hP hD hS k_1 hk_1 rfl 13 (by decide) (hts _ kw_1021) (fun _ h9 => h9) rfl (by decide +kernel) rfl rfl (Nat.le_of_ble_eq_true rfl) dX5_enter_112 (fun H locs hP hD hS => ?_)
      have hi_24 : invX5 g ws_20 h0 [.ref b_2, .ref r1_1, .ref r2_1, .int c3_1, .ref r4_1, .int c5_1, .ref r6_1, .int c7_1, .ref r8_1, .ref r9_1, .ref r10_1, .int c11_1, .ref b_3, .int z_23, .int c14_1, .int c15_1, .long l16_1, .int c17_1, .int c18_1, .int z_18] := ⟨(some b_2), r1_1, (n1_1), r2_1, (n2_1), (c3_1), r4_1, (n4_1), (c5_1), r6_1, (n6_1), (c7_1), r8_1, (n8_1), r9_1, (n9_1), r10_1, (n10_1), (c11_1), (some b_3), (z_23), (c14_1), (c15_1), (l16_1), (c17_1), (c18_1), (z_18), rfl, (fun b h9 => by cases h9; exact o_b_2), (fun b h9 => by cases h9; exact F_b_2), a_r1_1, f3_1, a_r2_1, f5_1, a_r4_1, f7_1, a_r6_1, f9_1, a_r8_1, f11_1, a_r9_1, f13_1, a_r10_1, f15_1, (fun b h9 => by cases h9; exact o_b_3), f17_1, f18_1, f19_1, f20_1, f21_1, f22_1, f23_1, f24_1, f25_1, f26_1, f27_1, f28_1, f29_1, f30_1, f31_1, trivial⟩
      obtain ⟨ws_25, e_ws_25⟩ : ∃ z, z = ws_20.set k_1 (h0, .inr (5, [.ref b_2, .ref r1_1, .ref r2_1, .int c3_1, .ref r4_1, .int c5_1, .ref r6_1, .int c7_1, .ref r8_1, .ref r9_1, .ref r10_1, .int c11_1, .ref b_3, .int z_23, .int c14_1, .int c15_1, .long l16_1, .int c17_1, .int c18_1, .int z_18])) := ⟨_, rfl⟩
      have hP : va_P (gD g) cl0 ws_25 H := by rw [e_ws_25]; exact hP
      have hD : va_D A ws_25 := by rw [e_ws_25]; exact hD
      have E_26 : gE ws_20 ws_25 := gE_set e_ws_25 hk_1 (cw_o (fi := 13) (v := .int z_23) rfl (by decide))
      have hG : Good g ws_25 := Good_set (fi := 13) (v := .int z_23) e_ws_25 hk_1 E_26 rfl hV9 hG (ivX5 hi_24)
      have Fr_27 : gF [(5, 13)] [] (some h0) ws_20 ws_25 := gF_put (fi := 13) (v := .int z_23) e_ws_25 hk_1 rfl (by decide)
      have hkN := gset_self e_ws_25 hk_1
      have hk_1 := hkN
      have o_h0 := E_26.1 _ _ o_h0
      have a_r1_1 := E_26.1 _ _ a_r1_1
      have a_r2_1 := E_26.1 _ _ a_r2_1
      have a_r4_1 := E_26.1 _ _ a_r4_1
      have a_r6_1 := E_26.1 _ _ a_r6_1
      have a_r8_1 := E_26.1 _ _ a_r8_1
      have a_r9_1 := E_26.1 _ _ a_r9_1
      have a_r10_1 := E_26.1 _ _ a_r10_1
      have o_b_2 := E_26.1 _ _ o_b_2
      have F_b_2 := F_b_2.mo E_26
      have o_b_3 := E_26.1 _ _ o_b_3
      refine W.widen (k := 0) (n := 0) (Nat.le_of_ble_eq_true rfl) (Nat.le_of_ble_eq_true rfl) ?_
      have tq_28 : frP g ws_25 h0 := frP_mo ((gF.tr (gF.mo (F' := [(5, 13), (5, 19)]) (C' := []) (S' := none) Fr_22 (by decide) (fun _ h => h) (Or.inl rfl)) (gF.mo (F' := [(5, 13), (5, 19)]) (C' := []) (S' := none) Fr_27 (by decide) (fun _ h => h) (Or.inl rfl)))) (by decide) (by decide) (by decide) (by decide) (by decide) tk0
      have tq_29 : swU ws_25 h0 := swU_mo ((gF.tr (gF.mo (F' := [(5, 13), (5, 19)]) (C' := []) (S' := none) Fr_22 (by decide) (fun _ h => h) (Or.inl rfl)) (gF.mo (F' := [(5, 13), (5, 19)]) (C' := []) (S' := none) Fr_27 (by decide) (fun _ h => h) (Or.inl rfl)))) (by decide) (by decide) (by decide) (by decide) (by decide) (by decide) (by decide) (by decide) (by decide) (by decide) (by decide) tk1
      have tq_30 : swC ws_25 h0 := swC_mo ((gF.tr (gF.mo (F' := [(5, 13), (5, 19)]) (C' := []) (S' := none) Fr_22 (by decide) (fun _ h => h) (Or.inl rfl)) (gF.mo (F' := [(5, 13), (5, 19)]) (C' := []) (S' := none) Fr_27 (by decide) (fun _ h => h) (Or.inl rfl)))) (by decide) (by decide) (by decide) (by decide) (by decide) (by decide) (by decide) (by decide) (by decide) tk2
      have tq_31 : arP g ws_25 h0 := arP_mo ((gF.tr (gF.mo (F' := [(5, 13), (5, 19)]) (C' := []) (S' := none) Fr_22 (by decide) (fun _ h => h) (Or.inl rfl)) (gF.mo (F' := [(5, 13), (5, 19)]) (C' := []) (S' := none) Fr_27 (by decide) (fun _ h => h) (Or.inl rfl)))) ((E_21.tr E_26)) (by decide) (by decide) tk3
      exact W.vret hx hb hr (fun t9 ht9 hW9 => ⟨⟨ws_25, rfl, ⟨trivial, (gN_of hD hk_1 (j := 0) rfl), (gN_of hD hk_1 (j := 12) rfl), tq_28, tq_29, tq_30, tq_31⟩, ⟨(E_21.tr E_26), (gF.tr (gF.mo (F' := [(5, 11), (5, 12), (5, 13), (5, 14), (5, 15), (5, 19)]) (C' := [(5, 8), (5, 10)]) (S' := none) Fr_22 (by decide) (fun _ h => absurd h List.not_mem_nil) (Or.inl rfl)) (gF.mo (F' := [(5, 11), (5, 12), (5, 13), (5, 14), (5, 15), (5, 19)]) (C' := [(5, 8), (5, 10)]) (S' := none) Fr_27 (by decide) (fun _ h => absurd h List.not_mem_nil) (Or.inl rfl))), hG, by rw [ht9]; exact hP, hD⟩⟩, hS.F ht9⟩) hS.2.2 dX5_enter_115
    rcases r_15 with _ | b_32
    · skip
      have J_95 : ∀  (H : Heap) (locs : List Loc) (ls : Array Slot), va_P (gD g) cl0 ws H → va_D A ws → va_S A s.heap H locs → lv_has ls 5 [(0, .ref h0)] → W p l e (headSpec (wt yX5_enter cX5_enter 5 none) ({ frames := 2, cells := 0, slots := 0, locals := 43 })).room s m ([.ref h0, .int x1] : List Value).toArray below meth c H locs (0) (0) (MQ below (va_Qv (fun (u9 : va_W) => (True) ∧ (gN u9 h0 0) ∧ (gN u9 h0 12) ∧ (frP g u9 h0) ∧ (swU u9 h0) ∧ (swC u9 h0) ∧ (arP g u9 h0)) (gQ1 g [(5, 11), (5, 12), (5, 13), (5, 14), (5, 15), (5, 19)] [(5, 8), (5, 10)] none A ws) A) ([.ref h0, .int x1] : List Value).toArray s (0) (0) A) (F0 m 95 ls []) := by
        intro  H locs ls  hP hD hS hl
        refine lv_aload_n hx hb dX5_enter_95 rfl (lv_at hl 0 rfl) ?_
        refine lv_dup hx hb dX5_enter_96 rfl ?_
        refine va_get (D := gD g) (ci := 5) (v := .int c19_1) (C := RX5) (T := TX5) (N := 20) hx hb hts inX5 hown hK hP k_1 hk_1 rfl 19 (by decide) (hts _ kw_1045) (fun _ h9 => h9) rfl dX5_enter_97 ?_
        refine lv_iconst (v := 1) hx hb dX5_enter_100 (by decide) ?_
        refine lv_iadd hx hb dX5_enter_101 ?_
        refine lv_topi (fun z_35 ez_35 => ?_)
        have hV9 : okv ws 5 19 (.int z_35) := okv_i
        refine va_put (D := gD g) (ci := 5) (v := .int z_35) (ty := .int) (C := RX5) (T := TX5) (N := 20) hx hb hts inX5 tyX5 tyX5_ok nmX5 hown hK hP hD hS k_1 hk_1 rfl 19 (by decide) (hts _ kw_1045) (fun _ h9 => h9) rfl (by decide +kernel) rfl rfl (Nat.le_of_ble_eq_true rfl) dX5_enter_102 (fun H locs hP hD hS => ?_)
        have hi_36 : invX5 g ws h0 [.ref b_2, .ref r1_1, .ref r2_1, .int c3_1, .ref r4_1, .int c5_1, .ref r6_1, .int c7_1, .ref r8_1, .ref r9_1, .ref r10_1, .int c11_1, .ref b_3, .int c13_1, .int c14_1, .int c15_1, .long l16_1, .int c17_1, .int c18_1, .int z_35] := ⟨(some b_2), r1_1, (n1_1), r2_1, (n2_1), (c3_1), r4_1, (n4_1), (c5_1), r6_1, (n6_1), (c7_1), r8_1, (n8_1), r9_1, (n9_1), r10_1, (n10_1), (c11_1), (some b_3), (c13_1), (c14_1), (c15_1), (l16_1), (c17_1), (c18_1), (z_35), rfl, (fun b h9 => by cases h9; exact o_b_2), (fun b h9 => by cases h9; exact F_b_2), a_r1_1, f3_1, a_r2_1, f5_1, a_r4_1, f7_1, a_r6_1, f9_1, a_r8_1, f11_1, a_r9_1, f13_1, a_r10_1, f15_1, (fun b h9 => by cases h9; exact o_b_3), f17_1, f18_1, f19_1, f20_1, f21_1, f22_1, f23_1, f24_1, f25_1, f26_1, f27_1, f28_1, f29_1, f30_1, f31_1, trivial⟩
        obtain ⟨ws_37, e_ws_37⟩ : ∃ z, z = ws.set k_1 (h0, .inr (5, [.ref b_2, .ref r1_1, .ref r2_1, .int c3_1, .ref r4_1, .int c5_1, .ref r6_1, .int c7_1, .ref r8_1, .ref r9_1, .ref r10_1, .int c11_1, .ref b_3, .int c13_1, .int c14_1, .int c15_1, .long l16_1, .int c17_1, .int c18_1, .int z_35])) := ⟨_, rfl⟩
        have hP : va_P (gD g) cl0 ws_37 H := by rw [e_ws_37]; exact hP
        have hD : va_D A ws_37 := by rw [e_ws_37]; exact hD
        have E_38 : gE ws ws_37 := gE_set e_ws_37 hk_1 (cw_o (fi := 19) (v := .int z_35) rfl (by decide))
        have hG : Good g ws_37 := Good_set (fi := 19) (v := .int z_35) e_ws_37 hk_1 E_38 rfl hV9 hG (ivX5 hi_36)
        have Fr_39 : gF [(5, 19)] [] (some h0) ws ws_37 := gF_put (fi := 19) (v := .int z_35) e_ws_37 hk_1 rfl (by decide)
        have hkN := gset_self e_ws_37 hk_1
        have hk_1 := hkN
        have o_h0 := E_38.1 _ _ o_h0
        have a_r1_1 := E_38.1 _ _ a_r1_1
        have a_r2_1 := E_38.1 _ _ a_r2_1
        have a_r4_1 := E_38.1 _ _ a_r4_1
        have a_r6_1 := E_38.1 _ _ a_r6_1
        have a_r8_1 := E_38.1 _ _ a_r8_1
        have a_r9_1 := E_38.1 _ _ a_r9_1
        have a_r10_1 := E_38.1 _ _ a_r10_1
        have o_b_2 := E_38.1 _ _ o_b_2
        have F_b_2 := F_b_2.mo E_38
        have o_b_3 := E_38.1 _ _ o_b_3
        refine lv_aload_n hx hb dX5_enter_105 rfl (lv_at hl 0 rfl) ?_
        refine lv_dup hx hb dX5_enter_106 rfl ?_
        refine va_get (D := gD g) (ci := 5) (v := .int c13_1) (C := RX5) (T := TX5) (N := 20) hx hb hts inX5 hown hK hP k_1 hk_1 rfl 13 (by decide) (hts _ kw_1021) (fun _ h9 => h9) rfl dX5_enter_107 ?_
        refine lv_iconst (v := 1) hx hb dX5_enter_110 (by decide) ?_
        refine lv_iadd hx hb dX5_enter_111 ?_
        refine lv_topi (fun z_40 ez_40 => ?_)
        have hV9 : okv ws_37 5 13 (.int z_40) := okv_i
        refine va_put (D := gD g) (ci := 5) (v := .int z_40) (ty := .int) (C := RX5) (T := TX5) (N := 20) hx hb hts inX5 tyX5 tyX5_ok nmX5 hown hK hP hD hS k_1 hk_1 rfl 13 (by decide) (hts _ kw_1021) (fun _ h9 => h9) rfl (by decide +kernel) rfl rfl (Nat.le_of_ble_eq_true rfl) dX5_enter_112 (fun H locs hP hD hS => ?_)
        have hi_41 : invX5 g ws_37 h0 [.ref b_2, .ref r1_1, .ref r2_1, .int c3_1, .ref r4_1, .int c5_1, .ref r6_1, .int c7_1, .ref r8_1, .ref r9_1, .ref r10_1, .int c11_1, .ref b_3, .int z_40, .int c14_1, .int c15_1, .long l16_1, .int c17_1, .int c18_1, .int z_35] := ⟨(some b_2), r1_1, (n1_1), r2_1, (n2_1), (c3_1), r4_1, (n4_1), (c5_1), r6_1, (n6_1), (c7_1), r8_1, (n8_1), r9_1, (n9_1), r10_1, (n10_1), (c11_1), (some b_3), (z_40), (c14_1), (c15_1), (l16_1), (c17_1), (c18_1), (z_35), rfl, (fun b h9 => by cases h9; exact o_b_2), (fun b h9 => by cases h9; exact F_b_2), a_r1_1, f3_1, a_r2_1, f5_1, a_r4_1, f7_1, a_r6_1, f9_1, a_r8_1, f11_1, a_r9_1, f13_1, a_r10_1, f15_1, (fun b h9 => by cases h9; exact o_b_3), f17_1, f18_1, f19_1, f20_1, f21_1, f22_1, f23_1, f24_1, f25_1, f26_1, f27_1, f28_1, f29_1, f30_1, f31_1, trivial⟩
        obtain ⟨ws_42, e_ws_42⟩ : ∃ z, z = ws_37.set k_1 (h0, .inr (5, [.ref b_2, .ref r1_1, .ref r2_1, .int c3_1, .ref r4_1, .int c5_1, .ref r6_1, .int c7_1, .ref r8_1, .ref r9_1, .ref r10_1, .int c11_1, .ref b_3, .int z_40, .int c14_1, .int c15_1, .long l16_1, .int c17_1, .int c18_1, .int z_35])) := ⟨_, rfl⟩
        have hP : va_P (gD g) cl0 ws_42 H := by rw [e_ws_42]; exact hP
        have hD : va_D A ws_42 := by rw [e_ws_42]; exact hD
        have E_43 : gE ws_37 ws_42 := gE_set e_ws_42 hk_1 (cw_o (fi := 13) (v := .int z_40) rfl (by decide))
        have hG : Good g ws_42 := Good_set (fi := 13) (v := .int z_40) e_ws_42 hk_1 E_43 rfl hV9 hG (ivX5 hi_41)
        have Fr_44 : gF [(5, 13)] [] (some h0) ws_37 ws_42 := gF_put (fi := 13) (v := .int z_40) e_ws_42 hk_1 rfl (by decide)
        have hkN := gset_self e_ws_42 hk_1
        have hk_1 := hkN
        have o_h0 := E_43.1 _ _ o_h0
        have a_r1_1 := E_43.1 _ _ a_r1_1
        have a_r2_1 := E_43.1 _ _ a_r2_1
        have a_r4_1 := E_43.1 _ _ a_r4_1
        have a_r6_1 := E_43.1 _ _ a_r6_1
        have a_r8_1 := E_43.1 _ _ a_r8_1
        have a_r9_1 := E_43.1 _ _ a_r9_1
        have a_r10_1 := E_43.1 _ _ a_r10_1
        have o_b_2 := E_43.1 _ _ o_b_2
        have F_b_2 := F_b_2.mo E_43
        have o_b_3 := E_43.1 _ _ o_b_3
        refine W.widen (k := 0) (n := 0) (Nat.le_of_ble_eq_true rfl) (Nat.le_of_ble_eq_true rfl) ?_
        have tq_45 : frP g ws_42 h0 := frP_mo ((gF.tr (gF.mo (F' := [(5, 13), (5, 19)]) (C' := []) (S' := none) Fr_39 (by decide) (fun _ h => h) (Or.inl rfl)) (gF.mo (F' := [(5, 13), (5, 19)]) (C' := []) (S' := none) Fr_44 (by decide) (fun _ h => h) (Or.inl rfl)))) (by decide) (by decide) (by decide) (by decide) (by decide) tk0
        have tq_46 : swU ws_42 h0 := swU_mo ((gF.tr (gF.mo (F' := [(5, 13), (5, 19)]) (C' := []) (S' := none) Fr_39 (by decide) (fun _ h => h) (Or.inl rfl)) (gF.mo (F' := [(5, 13), (5, 19)]) (C' := []) (S' := none) Fr_44 (by decide) (fun _ h => h) (Or.inl rfl)))) (by decide) (by decide) (by decide) (by decide) (by decide) (by decide) (by decide) (by decide) (by decide) (by decide) (by decide) tk1
        have tq_47 : swC ws_42 h0 := swC_mo ((gF.tr (gF.mo (F' := [(5, 13), (5, 19)]) (C' := []) (S' := none) Fr_39 (by decide) (fun _ h => h) (Or.inl rfl)) (gF.mo (F' := [(5, 13), (5, 19)]) (C' := []) (S' := none) Fr_44 (by decide) (fun _ h => h) (Or.inl rfl)))) (by decide) (by decide) (by decide) (by decide) (by decide) (by decide) (by decide) (by decide) (by decide) tk2
        have tq_48 : arP g ws_42 h0 := arP_mo ((gF.tr (gF.mo (F' := [(5, 13), (5, 19)]) (C' := []) (S' := none) Fr_39 (by decide) (fun _ h => h) (Or.inl rfl)) (gF.mo (F' := [(5, 13), (5, 19)]) (C' := []) (S' := none) Fr_44 (by decide) (fun _ h => h) (Or.inl rfl)))) ((E_38.tr E_43)) (by decide) (by decide) tk3
        exact W.vret hx hb hr (fun t9 ht9 hW9 => ⟨⟨ws_42, rfl, ⟨trivial, (gN_of hD hk_1 (j := 0) rfl), (gN_of hD hk_1 (j := 12) rfl), tq_45, tq_46, tq_47, tq_48⟩, ⟨(E_38.tr E_43), (gF.tr (gF.mo (F' := [(5, 11), (5, 12), (5, 13), (5, 14), (5, 15), (5, 19)]) (C' := [(5, 8), (5, 10)]) (S' := none) Fr_39 (by decide) (fun _ h => absurd h List.not_mem_nil) (Or.inl rfl)) (gF.mo (F' := [(5, 11), (5, 12), (5, 13), (5, 14), (5, 15), (5, 19)]) (C' := [(5, 8), (5, 10)]) (S' := none) Fr_44 (by decide) (fun _ h => absurd h List.not_mem_nil) (Or.inl rfl))), hG, by rw [ht9]; exact hP, hD⟩⟩, hS.F ht9⟩) hS.2.2 dX5_enter_115
      refine lv_ifnullN (tgt := 95) hx hb dX5_enter_63 (by decide) ?_
      exact J_95  H locs ls  hP hD hS (lv_sub hl [3] rfl)
    · have o_b_32 := o_r_15 _ rfl
      have J_95 : ∀  (H : Heap) (locs : List Loc) (ls : Array Slot), va_P (gD g) cl0 ws H → va_D A ws → va_S A s.heap H locs → lv_has ls 5 [(0, .ref h0)] → W p l e (headSpec (wt yX5_enter cX5_enter 5 none) ({ frames := 2, cells := 0, slots := 0, locals := 43 })).room s m ([.ref h0, .int x1] : List Value).toArray below meth c H locs (0) (0) (MQ below (va_Qv (fun (u9 : va_W) => (True) ∧ (gN u9 h0 0) ∧ (gN u9 h0 12) ∧ (frP g u9 h0) ∧ (swU u9 h0) ∧ (swC u9 h0) ∧ (arP g u9 h0)) (gQ1 g [(5, 11), (5, 12), (5, 13), (5, 14), (5, 15), (5, 19)] [(5, 8), (5, 10)] none A ws) A) ([.ref h0, .int x1] : List Value).toArray s (0) (0) A) (F0 m 95 ls []) := by
        intro  H locs ls  hP hD hS hl
        refine lv_aload_n hx hb dX5_enter_95 rfl (lv_at hl 0 rfl) ?_
        refine lv_dup hx hb dX5_enter_96 rfl ?_
        refine va_get (D := gD g) (ci := 5) (v := .int c19_1) (C := RX5) (T := TX5) (N := 20) hx hb hts inX5 hown hK hP k_1 hk_1 rfl 19 (by decide) (hts _ kw_1045) (fun _ h9 => h9) rfl dX5_enter_97 ?_
        refine lv_iconst (v := 1) hx hb dX5_enter_100 (by decide) ?_
        refine lv_iadd hx hb dX5_enter_101 ?_
        refine lv_topi (fun z_51 ez_51 => ?_)
        have hV9 : okv ws 5 19 (.int z_51) := okv_i
        refine va_put (D := gD g) (ci := 5) (v := .int z_51) (ty := .int) (C := RX5) (T := TX5) (N := 20) hx hb hts inX5 tyX5 tyX5_ok nmX5 hown hK hP hD hS k_1 hk_1 rfl 19 (by decide) (hts _ kw_1045) (fun _ h9 => h9) rfl (by decide +kernel) rfl rfl (Nat.le_of_ble_eq_true rfl) dX5_enter_102 (fun H locs hP hD hS => ?_)
        have hi_52 : invX5 g ws h0 [.ref b_2, .ref r1_1, .ref r2_1, .int c3_1, .ref r4_1, .int c5_1, .ref r6_1, .int c7_1, .ref r8_1, .ref r9_1, .ref r10_1, .int c11_1, .ref b_3, .int c13_1, .int c14_1, .int c15_1, .long l16_1, .int c17_1, .int c18_1, .int z_51] := ⟨(some b_2), r1_1, (n1_1), r2_1, (n2_1), (c3_1), r4_1, (n4_1), (c5_1), r6_1, (n6_1), (c7_1), r8_1, (n8_1), r9_1, (n9_1), r10_1, (n10_1), (c11_1), (some b_3), (c13_1), (c14_1), (c15_1), (l16_1), (c17_1), (c18_1), (z_51), rfl, (fun b h9 => by cases h9; exact o_b_2), (fun b h9 => by cases h9; exact F_b_2), a_r1_1, f3_1, a_r2_1, f5_1, a_r4_1, f7_1, a_r6_1, f9_1, a_r8_1, f11_1, a_r9_1, f13_1, a_r10_1, f15_1, (fun b h9 => by cases h9; exact o_b_3), f17_1, f18_1, f19_1, f20_1, f21_1, f22_1, f23_1, f24_1, f25_1, f26_1, f27_1, f28_1, f29_1, f30_1, f31_1, trivial⟩
        obtain ⟨ws_53, e_ws_53⟩ : ∃ z, z = ws.set k_1 (h0, .inr (5, [.ref b_2, .ref r1_1, .ref r2_1, .int c3_1, .ref r4_1, .int c5_1, .ref r6_1, .int c7_1, .ref r8_1, .ref r9_1, .ref r10_1, .int c11_1, .ref b_3, .int c13_1, .int c14_1, .int c15_1, .long l16_1, .int c17_1, .int c18_1, .int z_51])) := ⟨_, rfl⟩
        have hP : va_P (gD g) cl0 ws_53 H := by rw [e_ws_53]; exact hP
        have hD : va_D A ws_53 := by rw [e_ws_53]; exact hD
        have E_54 : gE ws ws_53 := gE_set e_ws_53 hk_1 (cw_o (fi := 19) (v := .int z_51) rfl (by decide))
        have hG : Good g ws_53 := Good_set (fi := 19) (v := .int z_51) e_ws_53 hk_1 E_54 rfl hV9 hG (ivX5 hi_52)
        have Fr_55 : gF [(5, 19)] [] (some h0) ws ws_53 := gF_put (fi := 19) (v := .int z_51) e_ws_53 hk_1 rfl (by decide)
        have hkN := gset_self e_ws_53 hk_1
        have hk_1 := hkN
        have o_h0 := E_54.1 _ _ o_h0
        have a_r1_1 := E_54.1 _ _ a_r1_1
        have a_r2_1 := E_54.1 _ _ a_r2_1
        have a_r4_1 := E_54.1 _ _ a_r4_1
        have a_r6_1 := E_54.1 _ _ a_r6_1
        have a_r8_1 := E_54.1 _ _ a_r8_1
        have a_r9_1 := E_54.1 _ _ a_r9_1
        have a_r10_1 := E_54.1 _ _ a_r10_1
        have o_b_2 := E_54.1 _ _ o_b_2
        have F_b_2 := F_b_2.mo E_54
        have o_b_3 := E_54.1 _ _ o_b_3
        refine lv_aload_n hx hb dX5_enter_105 rfl (lv_at hl 0 rfl) ?_
        refine lv_dup hx hb dX5_enter_106 rfl ?_
        refine va_get (D := gD g) (ci := 5) (v := .int c13_1) (C := RX5) (T := TX5) (N := 20) hx hb hts inX5 hown hK hP k_1 hk_1 rfl 13 (by decide) (hts _ kw_1021) (fun _ h9 => h9) rfl dX5_enter_107 ?_
        refine lv_iconst (v := 1) hx hb dX5_enter_110 (by decide) ?_
        refine lv_iadd hx hb dX5_enter_111 ?_
        refine lv_topi (fun z_56 ez_56 => ?_)
        have hV9 : okv ws_53 5 13 (.int z_56) := okv_i
        refine va_put (D := gD g) (ci := 5) (v := .int z_56) (ty := .int) (C := RX5) (T := TX5) (N := 20) hx hb hts inX5 tyX5 tyX5_ok nmX5 hown hK hP hD hS k_1 hk_1 rfl 13 (by decide) (hts _ kw_1021) (fun _ h9 => h9) rfl (by decide +kernel) rfl rfl (Nat.le_of_ble_eq_true rfl) dX5_enter_112 (fun H locs hP hD hS => ?_)
        have hi_57 : invX5 g ws_53 h0 [.ref b_2, .ref r1_1, .ref r2_1, .int c3_1, .ref r4_1, .int c5_1, .ref r6_1, .int c7_1, .ref r8_1, .ref r9_1, .ref r10_1, .int c11_1, .ref b_3, .int z_56, .int c14_1, .int c15_1, .long l16_1, .int c17_1, .int c18_1, .int z_51] := ⟨(some b_2), r1_1, (n1_1), r2_1, (n2_1), (c3_1), r4_1, (n4_1), (c5_1), r6_1, (n6_1), (c7_1), r8_1, (n8_1), r9_1, (n9_1), r10_1, (n10_1), (c11_1), (some b_3), (z_56), (c14_1), (c15_1), (l16_1), (c17_1), (c18_1), (z_51), rfl, (fun b h9 => by cases h9; exact o_b_2), (fun b h9 => by cases h9; exact F_b_2), a_r1_1, f3_1, a_r2_1, f5_1, a_r4_1, f7_1, a_r6_1, f9_1, a_r8_1, f11_1, a_r9_1, f13_1, a_r10_1, f15_1, (fun b h9 => by cases h9; exact o_b_3), f17_1, f18_1, f19_1, f20_1, f21_1, f22_1, f23_1, f24_1, f25_1, f26_1, f27_1, f28_1, f29_1, f30_1, f31_1, trivial⟩
        obtain ⟨ws_58, e_ws_58⟩ : ∃ z, z = ws_53.set k_1 (h0, .inr (5, [.ref b_2, .ref r1_1, .ref r2_1, .int c3_1, .ref r4_1, .int c5_1, .ref r6_1, .int c7_1, .ref r8_1, .ref r9_1, .ref r10_1, .int c11_1, .ref b_3, .int z_56, .int c14_1, .int c15_1, .long l16_1, .int c17_1, .int c18_1, .int z_51])) := ⟨_, rfl⟩
        have hP : va_P (gD g) cl0 ws_58 H := by rw [e_ws_58]; exact hP
        have hD : va_D A ws_58 := by rw [e_ws_58]; exact hD
        have E_59 : gE ws_53 ws_58 := gE_set e_ws_58 hk_1 (cw_o (fi := 13) (v := .int z_56) rfl (by decide))
        have hG : Good g ws_58 := Good_set (fi := 13) (v := .int z_56) e_ws_58 hk_1 E_59 rfl hV9 hG (ivX5 hi_57)
        have Fr_60 : gF [(5, 13)] [] (some h0) ws_53 ws_58 := gF_put (fi := 13) (v := .int z_56) e_ws_58 hk_1 rfl (by decide)
        have hkN := gset_self e_ws_58 hk_1
        have hk_1 := hkN
        have o_h0 := E_59.1 _ _ o_h0
        have a_r1_1 := E_59.1 _ _ a_r1_1
        have a_r2_1 := E_59.1 _ _ a_r2_1
        have a_r4_1 := E_59.1 _ _ a_r4_1
        have a_r6_1 := E_59.1 _ _ a_r6_1
        have a_r8_1 := E_59.1 _ _ a_r8_1
        have a_r9_1 := E_59.1 _ _ a_r9_1
        have a_r10_1 := E_59.1 _ _ a_r10_1
        have o_b_2 := E_59.1 _ _ o_b_2
        have F_b_2 := F_b_2.mo E_59
        have o_b_3 := E_59.1 _ _ o_b_3
        refine W.widen (k := 0) (n := 0) (Nat.le_of_ble_eq_true rfl) (Nat.le_of_ble_eq_true rfl) ?_
        have tq_61 : frP g ws_58 h0 := frP_mo ((gF.tr (gF.mo (F' := [(5, 13), (5, 19)]) (C' := []) (S' := none) Fr_55 (by decide) (fun _ h => h) (Or.inl rfl)) (gF.mo (F' := [(5, 13), (5, 19)]) (C' := []) (S' := none) Fr_60 (by decide) (fun _ h => h) (Or.inl rfl)))) (by decide) (by decide) (by decide) (by decide) (by decide) tk0
        have tq_62 : swU ws_58 h0 := swU_mo ((gF.tr (gF.mo (F' := [(5, 13), (5, 19)]) (C' := []) (S' := none) Fr_55 (by decide) (fun _ h => h) (Or.inl rfl)) (gF.mo (F' := [(5, 13), (5, 19)]) (C' := []) (S' := none) Fr_60 (by decide) (fun _ h => h) (Or.inl rfl)))) (by decide) (by decide) (by decide) (by decide) (by decide) (by decide) (by decide) (by decide) (by decide) (by decide) (by decide) tk1
        have tq_63 : swC ws_58 h0 := swC_mo ((gF.tr (gF.mo (F' := [(5, 13), (5, 19)]) (C' := []) (S' := none) Fr_55 (by decide) (fun _ h => h) (Or.inl rfl)) (gF.mo (F' := [(5, 13), (5, 19)]) (C' := []) (S' := none) Fr_60 (by decide) (fun _ h => h) (Or.inl rfl)))) (by decide) (by decide) (by decide) (by decide) (by decide) (by decide) (by decide) (by decide) (by decide) tk2
        have tq_64 : arP g ws_58 h0 := arP_mo ((gF.tr (gF.mo (F' := [(5, 13), (5, 19)]) (C' := []) (S' := none) Fr_55 (by decide) (fun _ h => h) (Or.inl rfl)) (gF.mo (F' := [(5, 13), (5, 19)]) (C' := []) (S' := none) Fr_60 (by decide) (fun _ h => h) (Or.inl rfl)))) ((E_54.tr E_59)) (by decide) (by decide) tk3
        exact W.vret hx hb hr (fun t9 ht9 hW9 => ⟨⟨ws_58, rfl, ⟨trivial, (gN_of hD hk_1 (j := 0) rfl), (gN_of hD hk_1 (j := 12) rfl), tq_61, tq_62, tq_63, tq_64⟩, ⟨(E_54.tr E_59), (gF.tr (gF.mo (F' := [(5, 11), (5, 12), (5, 13), (5, 14), (5, 15), (5, 19)]) (C' := [(5, 8), (5, 10)]) (S' := none) Fr_55 (by decide) (fun _ h => absurd h List.not_mem_nil) (Or.inl rfl)) (gF.mo (F' := [(5, 11), (5, 12), (5, 13), (5, 14), (5, 15), (5, 19)]) (C' := [(5, 8), (5, 10)]) (S' := none) Fr_60 (by decide) (fun _ h => absurd h List.not_mem_nil) (Or.inl rfl))), hG, by rw [ht9]; exact hP, hD⟩⟩, hS.F ht9⟩) hS.2.2 dX5_enter_115
      refine lv_ifnull hx hb dX5_enter_63 ?_
      have tq_65 : inU ws h0 x1 := ⟨_, _, _, hk_1, rfl, (h_r_15.1 _ rfl).1⟩
      refine lv_iload_n hx hb dX5_enter_66 rfl (lv_at hl 2 rfl) ?_
      refine lv_aload_n hx hb dX5_enter_67 rfl (lv_at hl 3 rfl) ?_
      refine va_get (D := gD g) (ci := 5) (v := .int c14_1) (C := RX5) (T := TX5) (N := 20) hx hb hts inX5 hown hK hP k_1 hk_1 rfl 14 (by decide) (hts _ kw_1031) (fun _ h9 => h9) rfl dX5_enter_68 ?_
      refine lv_icmp_gt (tgt := 95) hx hb dX5_enter_71 (by decide) (fun c_66 => ?_) (fun c_66 => ?_)
      · exact J_95  H locs ls  hP hD hS (lv_sub hl [3] rfl)
      · refine lv_iload hx hb dX5_enter_74 (lv_at hl 0 rfl) ?_
        refine lv_iload_n hx hb dX5_enter_76 rfl (lv_at hl 2 rfl) ?_
        refine lv_iadd hx hb dX5_enter_77 ?_
        refine lv_topi (fun z_67 ez_67 => ?_)
        refine lv_aload_n hx hb dX5_enter_78 rfl (lv_at hl 3 rfl) ?_
        refine va_get (D := gD g) (ci := 5) (v := .ref r8_1) (C := RX5) (T := TX5) (N := 20) hx hb hts inX5 hown hK hP k_1 hk_1 rfl 8 (by decide) (hts _ kw_1044) (fun _ h9 => h9) rfl dX5_enter_79 ?_
        obtain ⟨k_68, f_68, hk_68⟩ := gJ_of a_r8_1
        obtain ⟨z_69, ez_69⟩ : ∃ z : Int32, Int32.ofNat n8_1 = z := ⟨_, rfl⟩
        refine va_alen (v := z_69) hx hb hK hP k_68 3 hk_68 rfl ez_69 dX5_enter_82 ?_
        refine lv_icmp_gt (tgt := 95) hx hb dX5_enter_83 (by decide) (fun c_70 => ?_) (fun c_70 => ?_)
        · exact J_95  H locs ls  hP hD hS (lv_sub hl [3] rfl)
        · refine lv_aload_n hx hb dX5_enter_86 rfl (lv_at hl 3 rfl) ?_
          refine va_get (D := gD g) (ci := 5) (v := .int c14_1) (C := RX5) (T := TX5) (N := 20) hx hb hts inX5 hown hK hP k_1 hk_1 rfl 14 (by decide) (hts _ kw_1031) (fun _ h9 => h9) rfl dX5_enter_87 ?_
          refine lv_bipush (v := 24) hx hb dX5_enter_90 (by decide) ?_
          refine lv_icmp_le (tgt := 116) hx hb dX5_enter_92 (by decide) (fun c_71 => ?_) (fun c_71 => ?_)
          · refine lv_aload_n hx hb dX5_enter_116 rfl (lv_at hl 3 rfl) ?_
            refine va_get (D := gD g) (ci := 5) (v := .ref r9_1) (C := RX5) (T := TX5) (N := 20) hx hb hts inX5 hown hK hP k_1 hk_1 rfl 9 (by decide) (hts _ kw_1046) (fun _ h9 => h9) rfl dX5_enter_117 ?_
            refine lv_iload_n hx hb dX5_enter_120 rfl (lv_at hl 1 rfl) ?_
            refine lv_aload_n hx hb dX5_enter_121 rfl (lv_at hl 3 rfl) ?_
            refine va_get (D := gD g) (ci := 5) (v := .ref r8_1) (C := RX5) (T := TX5) (N := 20) hx hb hts inX5 hown hK hP k_1 hk_1 rfl 8 (by decide) (hts _ kw_1044) (fun _ h9 => h9) rfl dX5_enter_122 ?_
            refine lv_iload hx hb dX5_enter_125 (lv_at hl 0 rfl) ?_
            refine lv_iload_n hx hb dX5_enter_127 rfl (lv_at hl 2 rfl) ?_
            obtain ⟨k_72, f_72, hk_72⟩ := gJ_of a_r9_1
            have hC9 : hol ws r8_1 [(5, 8)] := (hol_u hG.u hk_1 (j := 8) rfl a_r8_1 (by decide))
            have hS9 : holS ws r8_1 none := holS_n
            refine va_copyl hx hb (by rw [hml]; exact hl.1.symm) hown (hts _ kw_1047) (hts _ kw_28) (hts _ kw_29) (hts _ kw_30) hK hP hD hS k_72 k_68 3 3 hk_72 hk_68 rfl rfl rfl (i_nl0 (by have e1 : (1 : Int32).toInt = 1 := (by decide); have e24 : (24 : Int32).toInt = 24 := (by decide); have q_z_11 := i_subD ez_11; have q_r_8 := h_r_8; have q_z_10 := i_addD ez_10; have q_c_66 := i_nlt c_66; have q_z_67 := i_addD ez_67; have q_z_9 := i_mulR (c := 24) (K := 89478485) ez_9 (by decide) (by decide) (by decide) (by decide); have q_z_13 := i_mulR (c := 24) (K := 89478485) ez_13 (by decide) (by decide) (by decide) (by decide); have q_c_70 := i_nlt c_70; have q_c_71 := i_le c_71; have q_f23_1 := f23_1; have q_f24_1 := f24_1; have q_z_4 := i_addD ez_4; have q_z_12 := i_addD ez_12; have q_z_69 := i_len ez_69 f11_1; have g_c11_1 := i_rg c11_1; have g_c14_1 := i_rg c14_1; have g_r_8 := i_rg r_8; have g_z_10 := i_rg z_10; have g_z_11 := i_rg z_11; have g_z_12 := i_rg z_12; have g_z_13 := i_rg z_13; have g_z_4 := i_rg z_4; have g_z_67 := i_rg z_67; have g_z_69 := i_rg z_69; have g_z_9 := i_rg z_9; omega)) (i_nl0 (by have e1 : (1 : Int32).toInt = 1 := (by decide); have e24 : (24 : Int32).toInt = 24 := (by decide); have e60 : (60 : Int32).toInt = 60 := (by decide); have q_z_13 := i_mulR (c := 24) (K := 89478485) ez_13 (by decide) (by decide) (by decide) (by decide); have q_z_67 := i_addD ez_67; have q_r_8 := h_r_8; have q_z_11 := i_subD ez_11; have q_z_12 := i_addD ez_12; have q_c_66 := i_nlt c_66; have q_c_70 := i_nlt c_70; have q_f23_1 := f23_1; have q_f24_1 := f24_1; have q_z_4 := i_addD ez_4; have q_z_9 := i_mulR (c := 24) (K := 89478485) ez_9 (by decide) (by decide) (by decide) (by decide); have q_z_10 := i_addD ez_10; have q_z_69 := i_len ez_69 f11_1; have q_c_71 := i_le c_71; have q_f11_1 := f11_1; have q_f22_1 := f22_1; have q_c_5 := i_lt c_5; have g_c11_1 := i_rg c11_1; have g_c14_1 := i_rg c14_1; have g_r_8 := i_rg r_8; have g_z_10 := i_rg z_10; have g_z_11 := i_rg z_11; have g_z_12 := i_rg z_12; have g_z_13 := i_rg z_13; have g_z_4 := i_rg z_4; have g_z_67 := i_rg z_67; have g_z_69 := i_rg z_69; have g_z_9 := i_rg z_9; omega)) (i_nl0 (by have e1 : (1 : Int32).toInt = 1 := (by decide); have e24 : (24 : Int32).toInt = 24 := (by decide); have q_r_8 := h_r_8; have q_z_11 := i_subD ez_11; have q_c_66 := i_nlt c_66; have q_z_67 := i_addD ez_67; have q_z_10 := i_addD ez_10; have q_z_13 := i_mulR (c := 24) (K := 89478485) ez_13 (by decide) (by decide) (by decide) (by decide); have q_c_70 := i_nlt c_70; have q_c_71 := i_le c_71; have q_z_9 := i_mulR (c := 24) (K := 89478485) ez_9 (by decide) (by decide) (by decide) (by decide); have q_z_12 := i_addD ez_12; have q_z_69 := i_len ez_69 f11_1; have q_f11_1 := f11_1; have q_f22_1 := f22_1; have q_f23_1 := f23_1; have q_f24_1 := f24_1; have q_z_4 := i_addD ez_4; have g_c11_1 := i_rg c11_1; have g_c14_1 := i_rg c14_1; have g_r_8 := i_rg r_8; have g_z_10 := i_rg z_10; have g_z_11 := i_rg z_11; have g_z_12 := i_rg z_12; have g_z_13 := i_rg z_13; have g_z_4 := i_rg z_4; have g_z_67 := i_rg z_67; have g_z_69 := i_rg z_69; have g_z_9 := i_rg z_9; omega)) (i_cp (by have e1 : (1 : Int32).toInt = 1 := (by decide); have e24 : (24 : Int32).toInt = 24 := (by decide); have q_f13_1 := f13_1; have q_f22_1 := f22_1; have q_r_8 := h_r_8; have q_z_11 := i_subD ez_11; have q_c_66 := i_nlt c_66; have q_z_67 := i_addD ez_67; have q_f11_1 := f11_1; have q_z_10 := i_addD ez_10; have q_z_13 := i_mulR (c := 24) (K := 89478485) ez_13 (by decide) (by decide) (by decide) (by decide); have q_z_69 := i_len ez_69 f11_1; have q_c_70 := i_nlt c_70; have q_c_71 := i_le c_71; have q_z_9 := i_mulR (c := 24) (K := 89478485) ez_9 (by decide) (by decide) (by decide) (by decide); have q_z_12 := i_addD ez_12; have q_f23_1 := f23_1; have q_f24_1 := f24_1; have q_z_4 := i_addD ez_4; have g_c11_1 := i_rg c11_1; have g_c14_1 := i_rg c14_1; have g_r_8 := i_rg r_8; have g_z_10 := i_rg z_10; have g_z_11 := i_rg z_11; have g_z_12 := i_rg z_12; have g_z_13 := i_rg z_13; have g_z_4 := i_rg z_4; have g_z_67 := i_rg z_67; have g_z_69 := i_rg z_69; have g_z_9 := i_rg z_9; omega)) (i_cp (by have e1 : (1 : Int32).toInt = 1 := (by decide); have e24 : (24 : Int32).toInt = 24 := (by decide); have e60 : (60 : Int32).toInt = 60 := (by decide); have q_f11_1 := f11_1; have q_f22_1 := f22_1; have q_r_8 := h_r_8; have q_z_11 := i_subD ez_11; have q_z_13 := i_mulR (c := 24) (K := 89478485) ez_13 (by decide) (by decide) (by decide) (by decide); have q_c_66 := i_nlt c_66; have q_z_67 := i_addD ez_67; have q_z_69 := i_len ez_69 f11_1; have q_f13_1 := f13_1; have q_z_10 := i_addD ez_10; have q_z_12 := i_addD ez_12; have q_c_70 := i_nlt c_70; have q_c_71 := i_le c_71; have q_f23_1 := f23_1; have q_f24_1 := f24_1; have q_z_4 := i_addD ez_4; have q_z_9 := i_mulR (c := 24) (K := 89478485) ez_9 (by decide) (by decide) (by decide) (by decide); have q_c_5 := i_lt c_5; have g_c11_1 := i_rg c11_1; have g_c14_1 := i_rg c14_1; have g_r_8 := i_rg r_8; have g_z_10 := i_rg z_10; have g_z_11 := i_rg z_11; have g_z_12 := i_rg z_12; have g_z_13 := i_rg z_13; have g_z_4 := i_rg z_4; have g_z_67 := i_rg z_67; have g_z_69 := i_rg z_69; have g_z_9 := i_rg z_9; omega)) (fun _ _ => rfl) (Nat.le_of_ble_eq_true rfl) (Nat.le_of_ble_eq_true rfl) dX5_enter_128 (fun H locs hP hD hS => ?_)
            obtain ⟨ws_73, e_ws_73⟩ : ∃ z, z = ws.set k_68 (r8_1, .inl (g.cL, n8_1, .inr (.inl (va_cpy f_72 f_68 (z_11 : Int32).toNatClampNeg (z_13 : Int32).toNatClampNeg (r_8 : Int32).toNatClampNeg)))) := ⟨_, rfl⟩
            have hP : va_P (gD g) cl0 ws_73 H := by rw [e_ws_73]; exact hP
            have hD : va_D A ws_73 := by rw [e_ws_73]; exact hD
            have E_74 : gE ws ws_73 := gE_arj e_ws_73 hk_68
            have hG : Good g ws_73 := Good_arj e_ws_73 hk_68 hG
            have Fr_75 : gF [] [(5, 8)] none ws ws_73 := gF_ar e_ws_73 hk_68 rfl hC9 hS9
            have hk_1 := gset_arO e_ws_73 hk_68 hk_1
            have o_h0 := E_74.1 _ _ o_h0
            have a_r1_1 := E_74.1 _ _ a_r1_1
            have a_r2_1 := E_74.1 _ _ a_r2_1
            have a_r4_1 := E_74.1 _ _ a_r4_1
            have a_r6_1 := E_74.1 _ _ a_r6_1
            have a_r8_1 := E_74.1 _ _ a_r8_1
            have a_r9_1 := E_74.1 _ _ a_r9_1
            have a_r10_1 := E_74.1 _ _ a_r10_1
            have o_b_2 := E_74.1 _ _ o_b_2
            have F_b_2 := F_b_2.mo E_74
            have o_b_3 := E_74.1 _ _ o_b_3
            refine lv_aload_n hx hb dX5_enter_131 rfl (lv_at hl 3 rfl) ?_
            refine lv_iconst (v := 1) hx hb dX5_enter_132 (by decide) ?_
            refine lv_aload_n hx hb dX5_enter_133 rfl (lv_at hl 3 rfl) ?_
            refine va_get (D := gD g) (ci := 5) (v := .int c13_1) (C := RX5) (T := TX5) (N := 20) hx hb hts inX5 hown hK hP k_1 hk_1 rfl 13 (by decide) (hts _ kw_1021) (fun _ h9 => h9) rfl dX5_enter_134 ?_
            have tq_76 : frP g ws_73 h0 := frP_mo (Fr_75) (by decide) (by decide) (by decide) (by decide) (by decide) tk0
            have hFc := gfree hD hS hA
            refine va_callv (va_runV (As := [.int 1, .int c13_1]) (rest := []) ⟨hx, hb, hml, hown, hts⟩ (m_X5_setFrame l g H.size ws_73 h0 (1) (c13_1) hG o_h0 (by have e1 : (1 : Int32).toInt = 1 := (by decide); omega)) (cwV 2 hts (gd_V kw_1048 kw_1148 kw_1149 kw_398 kw_1147) rfl rfl rfl (by decide +kernel) ⟨Nat.le_of_ble_eq_true rfl, Nat.le_of_ble_eq_true rfl⟩) ⟨gblind, va_recv hK hP (ci := 5) (q0 := k_1) rfl hk_1, fun U hU hW9 => gmk hU hW9 hP hK hD hex hE hS hFc⟩ rfl rfl hl.1 rfl (lv_room (Nat.le_of_ble_eq_true rfl)) dX5_enter_137 ⟨Nat.le_of_ble_eq_true rfl, Nat.le_of_ble_eq_true rfl⟩) hS (fun q _ h => hFc q h) hFc (fun  ws_77 t9 H1 locs ht9 hvm9 hw9 hB9 hz9 hk9 hS => ?_)
            obtain ⟨E_78, Fr_79, hG, hP1, hD1⟩ := hB9
            have hP : va_P (gD g) cl0 ws_77 H1 := by rw [← ht9]; exact hP1
            have hD : va_D A ws_77 := hD1.weaken (fun _ _ _ h => hFc _ h)
            obtain ⟨hw9, xp_82⟩ := hw9
            clear hP1 hD1 hz9 hk9 hvm9 ht9 hw9
            generalize H1 = H at hP hS ⊢
            have aa_83 := a_r1_1
            have aa_84 := a_r2_1
            have aa_85 := a_r4_1
            have aa_86 := a_r6_1
            have aa_87 := a_r8_1
            have aa_88 := a_r9_1
            have aa_89 := a_r10_1
            have o_h0 := E_78.1 _ _ o_h0
            have tq_90 : frP g ws_77 h0 := frP_q Fr_79 (by decide) (fun e9 q9 => xp_82.1 e9 q9 (Or.inl (by decide))) tq_76
            refine lv_aload_n hx hb dX5_enter_140 rfl (lv_at hl 3 rfl) ?_
            refine lv_iconst (v := 2) hx hb dX5_enter_141 (by decide) ?_
            refine lv_aload_n hx hb dX5_enter_142 rfl (lv_at hl 3 rfl) ?_
            obtain ⟨fs9, hk_91, hq_91⟩ := ((gF.a (F' := []) Fr_79 (fun _ h => h))) _ _ _ hk_1
            obtain ⟨v0_91, r1_91, n1_91, r2_91, n2_91, c3_91, r4_91, n4_91, c5_91, r6_91, n6_91, c7_91, r8_91, n8_91, r9_91, n9_91, r10_91, n10_91, c11_91, v12_91, c13_91, c14_91, c15_91, l16_91, c17_91, c18_91, c19_91, rfl, o_v0_91, F_v0_91, a_r1_91, f3_91, a_r2_91, f5_91, a_r4_91, f7_91, a_r6_91, f9_91, a_r8_91, f11_91, a_r9_91, f13_91, a_r10_91, f15_91, o_v12_91, f17_91, f18_91, f19_91, f20_91, f21_91, f22_91, f23_91, f24_91, f25_91, f26_91, f27_91, f28_91, f29_91, f30_91, f31_91, -⟩ := (hG.1 _ _ _ _ hk_91).hX5 rfl
            have hn9 := fe_qr (hq_91 0 (by decide))
            subst hn9
            have o_b_2 := o_v0_91 _ rfl
            have F_b_2 := F_v0_91 _ rfl
            obtain rfl := fe_r (hq_91 8 (by decide))
            have hn9 := gI_n hD ((E_78).1 _ _ aa_87) a_r8_91
            subst hn9
            have a_r8_1 := a_r8_91
            obtain rfl := fe_r (hq_91 9 (by decide))
            have hn9 := gI_n hD ((E_78).1 _ _ aa_88) a_r9_91
            subst hn9
            have a_r9_1 := a_r9_91
            obtain rfl := fe_i (hq_91 11 (by decide))
            have hn9 := fe_qr (hq_91 12 (by decide))
            subst hn9
            have o_b_3 := o_v12_91 _ rfl
            obtain rfl := fe_i (hq_91 13 (by decide))
            obtain rfl := fe_i (hq_91 14 (by decide))
            obtain rfl := fe_i (hq_91 19 (by decide))
            refine va_get (D := gD g) (ci := 5) (v := .int c14_1) (C := RX5) (T := TX5) (N := 20) hx hb hts inX5 hown hK hP k_1 hk_91 rfl 14 (by decide) (hts _ kw_1031) (fun _ h9 => h9) rfl dX5_enter_143 ?_
            refine lv_iload_n hx hb dX5_enter_146 rfl (lv_at hl 2 rfl) ?_
            refine lv_isub hx hb dX5_enter_147 ?_
            refine lv_topi (fun z_92 ez_92 => ?_)
            have hFc := gfree hD hS hA
            refine va_callv (va_runV (As := [.int 2, .int z_92]) (rest := []) ⟨hx, hb, hml, hown, hts⟩ (m_X5_setFrame l g H.size ws_77 h0 (2) (z_92) hG o_h0 (by have e2 : (2 : Int32).toInt = 2 := (by decide); omega)) (cwV 2 hts (gd_V kw_1048 kw_1148 kw_1149 kw_398 kw_1147) rfl rfl rfl (by decide +kernel) ⟨Nat.le_of_ble_eq_true rfl, Nat.le_of_ble_eq_true rfl⟩) ⟨gblind, va_recv hK hP (ci := 5) (q0 := k_1) rfl hk_91, fun U hU hW9 => gmk hU hW9 hP hK hD hex hE hS hFc⟩ rfl rfl hl.1 rfl (lv_room (Nat.le_of_ble_eq_true rfl)) dX5_enter_148 ⟨Nat.le_of_ble_eq_true rfl, Nat.le_of_ble_eq_true rfl⟩) hS (fun q _ h => hFc q h) hFc (fun  ws_93 t9 H1 locs ht9 hvm9 hw9 hB9 hz9 hk9 hS => ?_)
            obtain ⟨E_94, Fr_95, hG, hP1, hD1⟩ := hB9
            have hP : va_P (gD g) cl0 ws_93 H1 := by rw [← ht9]; exact hP1
            have hD : va_D A ws_93 := hD1.weaken (fun _ _ _ h => hFc _ h)
            obtain ⟨hw9, xp_98⟩ := hw9
            clear hP1 hD1 hz9 hk9 hvm9 ht9 hw9
            generalize H1 = H at hP hS ⊢
            have aa_99 := a_r1_91
            have aa_100 := a_r2_91
            have aa_101 := a_r4_91
            have aa_102 := a_r6_91
            have aa_103 := a_r8_1
            have aa_104 := a_r9_1
            have aa_105 := a_r10_91
            have o_h0 := E_94.1 _ _ o_h0
            have tq_106 : frP g ws_93 h0 := frP_q Fr_95 (by decide) (fun e9 q9 => xp_98.1 e9 q9 (Or.inl (by decide))) tq_90
            refine lv_aload_n hx hb dX5_enter_151 rfl (lv_at hl 3 rfl) ?_
            refine lv_dup hx hb dX5_enter_152 rfl ?_
            obtain ⟨fs9, hk_107, hq_107⟩ := ((gF.a (F' := []) Fr_95 (fun _ h => h))) _ _ _ hk_91
            obtain ⟨v0_107, r1_107, n1_107, r2_107, n2_107, c3_107, r4_107, n4_107, c5_107, r6_107, n6_107, c7_107, r8_107, n8_107, r9_107, n9_107, r10_107, n10_107, c11_107, v12_107, c13_107, c14_107, c15_107, l16_107, c17_107, c18_107, c19_107, rfl, o_v0_107, F_v0_107, a_r1_107, f3_107, a_r2_107, f5_107, a_r4_107, f7_107, a_r6_107, f9_107, a_r8_107, f11_107, a_r9_107, f13_107, a_r10_107, f15_107, o_v12_107, f17_107, f18_107, f19_107, f20_107, f21_107, f22_107, f23_107, f24_107, f25_107, f26_107, f27_107, f28_107, f29_107, f30_107, f31_107, -⟩ := (hG.1 _ _ _ _ hk_107).hX5 rfl
            have hn9 := fe_qr (hq_107 0 (by decide))
            subst hn9
            have o_b_2 := o_v0_107 _ rfl
            have F_b_2 := F_v0_107 _ rfl
            obtain rfl := fe_r (hq_107 8 (by decide))
            have hn9 := gI_n hD ((E_94).1 _ _ aa_103) a_r8_107
            subst hn9
            have a_r8_1 := a_r8_107
            obtain rfl := fe_r (hq_107 9 (by decide))
            have hn9 := gI_n hD ((E_94).1 _ _ aa_104) a_r9_107
            subst hn9
            have a_r9_1 := a_r9_107
            obtain rfl := fe_i (hq_107 11 (by decide))
            have hn9 := fe_qr (hq_107 12 (by decide))
            subst hn9
            have o_b_3 := o_v12_107 _ rfl
            obtain rfl := fe_i (hq_107 13 (by decide))
            obtain rfl := fe_i (hq_107 14 (by decide))
            obtain rfl := fe_i (hq_107 19 (by decide))
            refine va_get (D := gD g) (ci := 5) (v := .int c11_1) (C := RX5) (T := TX5) (N := 20) hx hb hts inX5 hown hK hP k_1 hk_107 rfl 11 (by decide) (hts _ kw_1025) (fun _ h9 => h9) rfl dX5_enter_153 ?_
            refine lv_iconst (v := 1) hx hb dX5_enter_156 (by decide) ?_
            refine lv_iadd hx hb dX5_enter_157 ?_
            refine lv_topi (fun z_108 ez_108 => ?_)
            have hkS := hk_107
            have hDS := hD
            have hV9 : okv ws_93 5 11 (.int z_108) := okv_i
            refine va_put (D := gD g) (ci := 5) (v := .int z_108) (ty := .int) (C := RX5) (T := TX5) (N := 20) hx hb hts inX5 tyX5 tyX5_ok nmX5 hown hK hP hD hS k_1 hk_107 rfl 11 (by decide) (hts _ kw_1025) (fun _ h9 => h9) rfl (by decide +kernel) rfl rfl (Nat.le_of_ble_eq_true rfl) dX5_enter_158 (fun H locs hP hD hS => ?_)
            have f_109 : 0 ≤ z_108.toInt := (by have e1 : (1 : Int32).toInt = 1 := (by decide); have e24 : (24 : Int32).toInt = 24 := (by decide); have e60 : (60 : Int32).toInt = 60 := (by decide); have q_z_108 := i_addD ez_108; have q_f23_1 := f23_1; have q_f24_1 := f24_1; have q_z_4 := i_addD ez_4; have q_z_9 := i_mulR (c := 24) (K := 89478485) ez_9 (by decide) (by decide) (by decide) (by decide); have q_z_12 := i_addD ez_12; have q_c_5 := i_lt c_5; have q_z_10 := i_addD ez_10; have q_z_13 := i_mulR (c := 24) (K := 89478485) ez_13 (by decide) (by decide) (by decide) (by decide); have q_z_11 := i_subD ez_11; have q_c_66 := i_nlt c_66; have q_z_67 := i_addD ez_67; have q_c_71 := i_le c_71; have q_z_92 := i_subD ez_92; have g_c11_1 := i_rg c11_1; have g_c14_1 := i_rg c14_1; have g_r_8 := i_rg r_8; have g_z_10 := i_rg z_10; have g_z_108 := i_rg z_108; have g_z_11 := i_rg z_11; have g_z_12 := i_rg z_12; have g_z_13 := i_rg z_13; have g_z_4 := i_rg z_4; have g_z_67 := i_rg z_67; have g_z_9 := i_rg z_9; have g_z_92 := i_rg z_92; omega)
            have f_110 : z_108.toInt ≤ 59 := (by have e1 : (1 : Int32).toInt = 1 := (by decide); have e24 : (24 : Int32).toInt = 24 := (by decide); have e60 : (60 : Int32).toInt = 60 := (by decide); have q_z_108 := i_addD ez_108; have q_f_109 := f_109; have q_f23_1 := f23_1; have q_f24_1 := f24_1; have q_z_4 := i_addD ez_4; have q_z_9 := i_mulR (c := 24) (K := 89478485) ez_9 (by decide) (by decide) (by decide) (by decide); have q_z_12 := i_addD ez_12; have q_c_5 := i_lt c_5; have q_z_10 := i_addD ez_10; have q_z_13 := i_mulR (c := 24) (K := 89478485) ez_13 (by decide) (by decide) (by decide) (by decide); have q_z_11 := i_subD ez_11; have q_c_66 := i_nlt c_66; have q_z_67 := i_addD ez_67; have q_c_71 := i_le c_71; have q_z_92 := i_subD ez_92; have g_c11_1 := i_rg c11_1; have g_c14_1 := i_rg c14_1; have g_r_8 := i_rg r_8; have g_z_10 := i_rg z_10; have g_z_108 := i_rg z_108; have g_z_11 := i_rg z_11; have g_z_12 := i_rg z_12; have g_z_13 := i_rg z_13; have g_z_4 := i_rg z_4; have g_z_67 := i_rg z_67; have g_z_9 := i_rg z_9; have g_z_92 := i_rg z_92; omega)
            have hi_111 : invX5 g ws_93 h0 [.ref b_2, .ref r1_107, .ref r2_107, .int c3_107, .ref r4_107, .int c5_107, .ref r6_107, .int c7_107, .ref r8_1, .ref r9_1, .ref r10_107, .int z_108, .ref b_3, .int c13_1, .int c14_1, .int c15_107, .long l16_107, .int c17_107, .int c18_107, .int c19_1] := ⟨(some b_2), r1_107, (n1_107), r2_107, (n2_107), (c3_107), r4_107, (n4_107), (c5_107), r6_107, (n6_107), (c7_107), r8_1, (n8_1), r9_1, (n9_1), r10_107, (n10_107), (z_108), (some b_3), (c13_1), (c14_1), (c15_107), (l16_107), (c17_107), (c18_107), (c19_1), rfl, (fun b h9 => by cases h9; exact o_b_2), (fun b h9 => by cases h9; exact F_b_2), a_r1_107, f3_107, a_r2_107, f5_107, a_r4_107, f7_107, a_r6_107, f9_107, a_r8_1, f11_107, a_r9_1, f13_107, a_r10_107, f15_107, (fun b h9 => by cases h9; exact o_b_3), f17_107, f18_107, f19_107, f20_107, f21_107, f22_107, f_109, f_110, f25_107, f26_107, f27_107, f28_107, f29_107, f30_107, f31_107, trivial⟩
            obtain ⟨ws_112, e_ws_112⟩ : ∃ z, z = ws_93.set k_1 (h0, .inr (5, [.ref b_2, .ref r1_107, .ref r2_107, .int c3_107, .ref r4_107, .int c5_107, .ref r6_107, .int c7_107, .ref r8_1, .ref r9_1, .ref r10_107, .int z_108, .ref b_3, .int c13_1, .int c14_1, .int c15_107, .long l16_107, .int c17_107, .int c18_107, .int c19_1])) := ⟨_, rfl⟩
            have hP : va_P (gD g) cl0 ws_112 H := by rw [e_ws_112]; exact hP
            have hD : va_D A ws_112 := by rw [e_ws_112]; exact hD
            have E_113 : gE ws_93 ws_112 := gE_set e_ws_112 hk_107 (cw_o (fi := 11) (v := .int z_108) rfl (by decide))
            have hG : Good g ws_112 := Good_set (fi := 11) (v := .int z_108) e_ws_112 hk_107 E_113 rfl hV9 hG (ivX5 hi_111)
            have Fr_114 : gF [(5, 11)] [] (some h0) ws_93 ws_112 := gF_put (fi := 11) (v := .int z_108) e_ws_112 hk_107 rfl (by decide)
            have hkN := gset_self e_ws_112 hk_107
            have hk_107 := hkN
            have o_h0 := E_113.1 _ _ o_h0
            have a_r1_107 := E_113.1 _ _ a_r1_107
            have a_r2_107 := E_113.1 _ _ a_r2_107
            have a_r4_107 := E_113.1 _ _ a_r4_107
            have a_r6_107 := E_113.1 _ _ a_r6_107
            have a_r10_107 := E_113.1 _ _ a_r10_107
            have o_b_2 := E_113.1 _ _ o_b_2
            have F_b_2 := F_b_2.mo E_113
            have a_r8_1 := E_113.1 _ _ a_r8_1
            have a_r9_1 := E_113.1 _ _ a_r9_1
            have o_b_3 := E_113.1 _ _ o_b_3
            have tq_115 : frB g ws_112 h0 := frB_up e_ws_112 hDS hkS (d := c11_1) (d' := z_108) rfl rfl (by have e1 : (1 : Int32).toInt = 1 := (by decide); have e24 : (24 : Int32).toInt = 24 := (by decide); have e60 : (60 : Int32).toInt = 60 := (by decide); have q_f23_1 := f23_1; have q_f24_1 := f24_1; have q_z_4 := i_addD ez_4; have q_z_9 := i_mulR (c := 24) (K := 89478485) ez_9 (by decide) (by decide) (by decide) (by decide); have q_z_12 := i_addD ez_12; have q_z_108 := i_addD ez_108; have q_f_109 := f_109; have q_f_110 := f_110; have q_c_5 := i_lt c_5; have q_z_10 := i_addD ez_10; have q_z_13 := i_mulR (c := 24) (K := 89478485) ez_13 (by decide) (by decide) (by decide) (by decide); have q_z_11 := i_subD ez_11; have q_c_66 := i_nlt c_66; have q_z_67 := i_addD ez_67; have q_c_71 := i_le c_71; have q_z_92 := i_subD ez_92; have q_r_8 := h_r_8; have q_c_70 := i_nlt c_70; have g_c11_1 := i_rg c11_1; have g_c14_1 := i_rg c14_1; have g_r_8 := i_rg r_8; have g_z_10 := i_rg z_10; have g_z_108 := i_rg z_108; have g_z_11 := i_rg z_11; have g_z_12 := i_rg z_12; have g_z_13 := i_rg z_13; have g_z_4 := i_rg z_4; have g_z_67 := i_rg z_67; have g_z_69 := i_rg z_69; have g_z_9 := i_rg z_9; have g_z_92 := i_rg z_92; omega) tq_106
            refine lv_aload_n hx hb dX5_enter_161 rfl (lv_at hl 3 rfl) ?_
            refine lv_iload_n hx hb dX5_enter_162 rfl (lv_at hl 4 rfl) ?_
            have tq_116 : inU ws_112 h0 x1 := inU_mo ((gF.tr (gF.mo (F' := [(5, 11)]) (C' := [(5, 8), (5, 10)]) (S' := none) Fr_75 (fun _ h => absurd h List.not_mem_nil) (by decide) (Or.inr rfl)) (gF.tr (gF.mo (F' := [(5, 11)]) (C' := [(5, 8), (5, 10)]) (S' := none) Fr_79 (fun _ h => absurd h List.not_mem_nil) (by decide) (Or.inr rfl)) (gF.tr (gF.mo (F' := [(5, 11)]) (C' := [(5, 8), (5, 10)]) (S' := none) Fr_95 (fun _ h => absurd h List.not_mem_nil) (by decide) (Or.inr rfl)) (gF.mo (F' := [(5, 11)]) (C' := [(5, 8), (5, 10)]) (S' := none) Fr_114 (fun _ h => h) (fun _ h => absurd h List.not_mem_nil) (Or.inl rfl)))))) (by decide) (by decide) tq_65
            have tq_117 : swU ws_112 h0 := swU_mo ((gF.tr (gF.mo (F' := [(5, 11)]) (C' := [(5, 8), (5, 10)]) (S' := none) Fr_75 (fun _ h => absurd h List.not_mem_nil) (by decide) (Or.inr rfl)) (gF.tr (gF.mo (F' := [(5, 11)]) (C' := [(5, 8), (5, 10)]) (S' := none) Fr_79 (fun _ h => absurd h List.not_mem_nil) (by decide) (Or.inr rfl)) (gF.tr (gF.mo (F' := [(5, 11)]) (C' := [(5, 8), (5, 10)]) (S' := none) Fr_95 (fun _ h => absurd h List.not_mem_nil) (by decide) (Or.inr rfl)) (gF.mo (F' := [(5, 11)]) (C' := [(5, 8), (5, 10)]) (S' := none) Fr_114 (fun _ h => h) (fun _ h => absurd h List.not_mem_nil) (Or.inl rfl)))))) (by decide) (by decide) (by decide) (by decide) (by decide) (by decide) (by decide) (by decide) (by decide) (by decide) (by decide) tk1
            have hFc := gfree hD hS hA
            refine va_callv (va_runV (As := [.int x1]) (rest := []) ⟨hx, hb, hml, hown, hts⟩ (m_X5_openFrame l g H.size ws_112 h0 (x1) hG o_h0 (gN_of hD hk_107 (j := 0) rfl) tq_115 tq_116 tq_117) (cwV 1 hts (gd_V kw_1049 kw_1111 kw_1112 kw_398 kw_1110) rfl rfl rfl (by decide +kernel) ⟨Nat.le_of_ble_eq_true rfl, Nat.le_of_ble_eq_true rfl⟩) ⟨gblind, va_recv hK hP (ci := 5) (q0 := k_1) rfl hk_107, fun U hU hW9 => gmk hU hW9 hP hK hD hex hE hS hFc⟩ rfl rfl hl.1 rfl (lv_room (Nat.le_of_ble_eq_true rfl)) dX5_enter_163 ⟨Nat.le_of_ble_eq_true rfl, Nat.le_of_ble_eq_true rfl⟩) hS (fun q _ h => hFc q h) hFc (fun  ws_118 t9 H1 locs ht9 hvm9 hw9 hB9 hz9 hk9 hS => ?_)
            obtain ⟨E_119, Fr_120, hG, hP1, hD1⟩ := hB9
            have hP : va_P (gD g) cl0 ws_118 H1 := by rw [← ht9]; exact hP1
            have hD : va_D A ws_118 := hD1.weaken (fun _ _ _ h => hFc _ h)
            obtain ⟨hw9, xp_123, xp_124, xp_125, xp_126, xp_127⟩ := hw9
            clear hP1 hD1 hz9 hk9 hvm9 ht9 hw9
            generalize H1 = H at hP hS ⊢
            have aa_128 := a_r1_107
            have aa_129 := a_r2_107
            have aa_130 := a_r4_107
            have aa_131 := a_r6_107
            have aa_132 := a_r8_1
            have aa_133 := a_r9_1
            have aa_134 := a_r10_107
            have o_h0 := E_119.1 _ _ o_h0
            obtain ⟨fs9, hk_135, hq_135⟩ := ((gF.a (F' := [(5, 12), (5, 13), (5, 14)]) Fr_120 (fun _ h => h))) _ _ _ hk_107
            obtain ⟨v0_135, r1_135, n1_135, r2_135, n2_135, c3_135, r4_135, n4_135, c5_135, r6_135, n6_135, c7_135, r8_135, n8_135, r9_135, n9_135, r10_135, n10_135, c11_135, v12_135, c13_135, c14_135, c15_135, l16_135, c17_135, c18_135, c19_135, rfl, o_v0_135, F_v0_135, a_r1_135, f3_135, a_r2_135, f5_135, a_r4_135, f7_135, a_r6_135, f9_135, a_r8_135, f11_135, a_r9_135, f13_135, a_r10_135, f15_135, o_v12_135, f17_135, f18_135, f19_135, f20_135, f21_135, f22_135, f23_135, f24_135, f25_135, f26_135, f27_135, f28_135, f29_135, f30_135, f31_135, -⟩ := (hG.1 _ _ _ _ hk_135).hX5 rfl
            have hn9 := fe_qr (hq_135 0 (by decide))
            subst hn9
            have o_b_2 := o_v0_135 _ rfl
            have F_b_2 := F_v0_135 _ rfl
            obtain rfl := fe_r (hq_135 8 (by decide))
            have hn9 := gI_n hD ((E_119).1 _ _ aa_132) a_r8_135
            subst hn9
            have a_r8_1 := a_r8_135
            obtain rfl := fe_r (hq_135 9 (by decide))
            have hn9 := gI_n hD ((E_119).1 _ _ aa_133) a_r9_135
            subst hn9
            have a_r9_1 := a_r9_135
            obtain rfl := fe_i (hq_135 11 (by decide))
            obtain rfl := fe_i (hq_135 19 (by decide))
            obtain ⟨b_136, hn9⟩ := xp_124 _ _ _ hk_135
            have hn9 := fe_qr hn9
            subst hn9
            have o_b_136 := o_v12_135 _ rfl
            refine W.widen (k := 0) (n := 0) (Nat.le_of_ble_eq_true rfl) (Nat.le_of_ble_eq_true rfl) ?_
            have tq_137 : arP g ws_118 h0 := arP_mo ((gF.tr (gF.mo (F' := [(5, 11), (5, 12), (5, 13), (5, 14)]) (C' := [(5, 8), (5, 10)]) (S' := none) Fr_75 (fun _ h => absurd h List.not_mem_nil) (by decide) (Or.inr rfl)) (gF.tr (gF.mo (F' := [(5, 11), (5, 12), (5, 13), (5, 14)]) (C' := [(5, 8), (5, 10)]) (S' := none) Fr_79 (fun _ h => absurd h List.not_mem_nil) (by decide) (Or.inr rfl)) (gF.tr (gF.mo (F' := [(5, 11), (5, 12), (5, 13), (5, 14)]) (C' := [(5, 8), (5, 10)]) (S' := none) Fr_95 (fun _ h => absurd h List.not_mem_nil) (by decide) (Or.inr rfl)) (gF.tr (gF.mo (F' := [(5, 11), (5, 12), (5, 13), (5, 14)]) (C' := [(5, 8), (5, 10)]) (S' := none) Fr_114 (by decide) (fun _ h => absurd h List.not_mem_nil) (Or.inl rfl)) (gF.mo (F' := [(5, 11), (5, 12), (5, 13), (5, 14)]) (C' := [(5, 8), (5, 10)]) (S' := none) Fr_120 (by decide) (by decide) (Or.inr rfl))))))) ((E_74.tr (E_78.tr (E_94.tr (E_113.tr E_119))))) (by decide) (by decide) tk3
            exact W.vret hx hb hr (fun t9 ht9 hW9 => ⟨⟨ws_118, rfl, ⟨trivial, (gN_of hD hk_135 (j := 0) rfl), (gN_of hD hk_135 (j := 12) rfl), xp_125, xp_126, xp_127, tq_137⟩, ⟨(E_74.tr (E_78.tr (E_94.tr (E_113.tr E_119)))), (gF.tr (gF.mo (F' := [(5, 11), (5, 12), (5, 13), (5, 14), (5, 15), (5, 19)]) (C' := [(5, 8), (5, 10)]) (S' := none) Fr_75 (fun _ h => absurd h List.not_mem_nil) (by decide) (Or.inr rfl)) (gF.tr (gF.mo (F' := [(5, 11), (5, 12), (5, 13), (5, 14), (5, 15), (5, 19)]) (C' := [(5, 8), (5, 10)]) (S' := none) Fr_79 (fun _ h => absurd h List.not_mem_nil) (by decide) (Or.inr rfl)) (gF.tr (gF.mo (F' := [(5, 11), (5, 12), (5, 13), (5, 14), (5, 15), (5, 19)]) (C' := [(5, 8), (5, 10)]) (S' := none) Fr_95 (fun _ h => absurd h List.not_mem_nil) (by decide) (Or.inr rfl)) (gF.tr (gF.mo (F' := [(5, 11), (5, 12), (5, 13), (5, 14), (5, 15), (5, 19)]) (C' := [(5, 8), (5, 10)]) (S' := none) Fr_114 (by decide) (fun _ h => absurd h List.not_mem_nil) (Or.inl rfl)) (gF.mo (F' := [(5, 11), (5, 12), (5, 13), (5, 14), (5, 15), (5, 19)]) (C' := [(5, 8), (5, 10)]) (S' := none) Fr_120 (by decide) (by decide) (Or.inr rfl)))))), hG, by rw [ht9]; exact hP, hD⟩⟩, hS.F ht9⟩) hS.2.2 dX5_enter_166
          · exact J_95  H locs ls  hP hD hS (lv_sub hl [3] rfl)
  · refine lv_aload_n hx hb dX5_enter_11 rfl (lv_at hl 0 rfl) ?_
    refine lv_iconst (v := 3) hx hb dX5_enter_12 (by decide) ?_
    have hV9 : okv ws 5 15 (.int 3) := okv_i
    refine va_put (D := gD g) (ci := 5) (v := .int 3) (ty := .int) (C := RX5) (T := TX5) (N := 20) hx hb hts inX5 tyX5 tyX5_ok nmX5 hown hK hP hD hS k_1 hk_1 rfl 15 (by decide) (hts _ kw_1041) (fun _ h9 => h9) rfl (by decide +kernel) rfl rfl (Nat.le_of_ble_eq_true rfl) dX5_enter_13 (fun H locs hP hD hS => ?_)
    have hi_138 : invX5 g ws h0 [.ref b_2, .ref r1_1, .ref r2_1, .int c3_1, .ref r4_1, .int c5_1, .ref r6_1, .int c7_1, .ref r8_1, .ref r9_1, .ref r10_1, .int c11_1, .ref b_3, .int c13_1, .int c14_1, .int 3, .long l16_1, .int c17_1, .int c18_1, .int c19_1] := ⟨(some b_2), r1_1, (n1_1), r2_1, (n2_1), (c3_1), r4_1, (n4_1), (c5_1), r6_1, (n6_1), (c7_1), r8_1, (n8_1), r9_1, (n9_1), r10_1, (n10_1), (c11_1), (some b_3), (c13_1), (c14_1), (3), (l16_1), (c17_1), (c18_1), (c19_1), rfl, (fun b h9 => by cases h9; exact o_b_2), (fun b h9 => by cases h9; exact F_b_2), a_r1_1, f3_1, a_r2_1, f5_1, a_r4_1, f7_1, a_r6_1, f9_1, a_r8_1, f11_1, a_r9_1, f13_1, a_r10_1, f15_1, (fun b h9 => by cases h9; exact o_b_3), f17_1, f18_1, f19_1, f20_1, f21_1, f22_1, f23_1, f24_1, f25_1, f26_1, f27_1, f28_1, f29_1, f30_1, f31_1, trivial⟩
    obtain ⟨ws_139, e_ws_139⟩ : ∃ z, z = ws.set k_1 (h0, .inr (5, [.ref b_2, .ref r1_1, .ref r2_1, .int c3_1, .ref r4_1, .int c5_1, .ref r6_1, .int c7_1, .ref r8_1, .ref r9_1, .ref r10_1, .int c11_1, .ref b_3, .int c13_1, .int c14_1, .int 3, .long l16_1, .int c17_1, .int c18_1, .int c19_1])) := ⟨_, rfl⟩
    have hP : va_P (gD g) cl0 ws_139 H := by rw [e_ws_139]; exact hP
    have hD : va_D A ws_139 := by rw [e_ws_139]; exact hD
    have E_140 : gE ws ws_139 := gE_set e_ws_139 hk_1 (cw_o (fi := 15) (v := .int 3) rfl (by decide))
    have hG : Good g ws_139 := Good_set (fi := 15) (v := .int 3) e_ws_139 hk_1 E_140 rfl hV9 hG (ivX5 hi_138)
    have Fr_141 : gF [(5, 15)] [] (some h0) ws ws_139 := gF_put (fi := 15) (v := .int 3) e_ws_139 hk_1 rfl (by decide)
    have hkN := gset_self e_ws_139 hk_1
    have hk_1 := hkN
    have o_h0 := E_140.1 _ _ o_h0
    have a_r1_1 := E_140.1 _ _ a_r1_1
    have a_r2_1 := E_140.1 _ _ a_r2_1
    have a_r4_1 := E_140.1 _ _ a_r4_1
    have a_r6_1 := E_140.1 _ _ a_r6_1
    have a_r8_1 := E_140.1 _ _ a_r8_1
    have a_r9_1 := E_140.1 _ _ a_r9_1
    have a_r10_1 := E_140.1 _ _ a_r10_1
    have o_b_2 := E_140.1 _ _ o_b_2
    have F_b_2 := F_b_2.mo E_140
    have o_b_3 := E_140.1 _ _ o_b_3
    refine W.widen (k := 0) (n := 0) (Nat.le_of_ble_eq_true rfl) (Nat.le_of_ble_eq_true rfl) ?_
    have tq_142 : frP g ws_139 h0 := frP_mo ((gF.mo (F' := [(5, 15)]) (C' := []) (S' := none) Fr_141 (fun _ h => h) (fun _ h => h) (Or.inl rfl))) (by decide) (by decide) (by decide) (by decide) (by decide) tk0
    have tq_143 : swU ws_139 h0 := swU_mo ((gF.mo (F' := [(5, 15)]) (C' := []) (S' := none) Fr_141 (fun _ h => h) (fun _ h => h) (Or.inl rfl))) (by decide) (by decide) (by decide) (by decide) (by decide) (by decide) (by decide) (by decide) (by decide) (by decide) (by decide) tk1
    have tq_144 : swC ws_139 h0 := swC_mo ((gF.mo (F' := [(5, 15)]) (C' := []) (S' := none) Fr_141 (fun _ h => h) (fun _ h => h) (Or.inl rfl))) (by decide) (by decide) (by decide) (by decide) (by decide) (by decide) (by decide) (by decide) (by decide) tk2
    have tq_145 : arP g ws_139 h0 := arP_mo ((gF.mo (F' := [(5, 15)]) (C' := []) (S' := none) Fr_141 (fun _ h => h) (fun _ h => h) (Or.inl rfl))) (E_140) (by decide) (by decide) tk3
    exact W.vret hx hb hr (fun t9 ht9 hW9 => ⟨⟨ws_139, rfl, ⟨trivial, (gN_of hD hk_1 (j := 0) rfl), (gN_of hD hk_1 (j := 12) rfl), tq_142, tq_143, tq_144, tq_145⟩, ⟨E_140, (gF.mo (F' := [(5, 11), (5, 12), (5, 13), (5, 14), (5, 15), (5, 19)]) (C' := [(5, 8), (5, 10)]) (S' := none) Fr_141 (by decide) (fun _ h => absurd h List.not_mem_nil) (Or.inl rfl)), hG, by rw [ht9]; exact hP, hD⟩⟩, hS.F ht9⟩) hS.2.2 dX5_enter_16
