set_option maxHeartbeats 1000000 in
set_option maxRecDepth 100000 in
theorem m_X2_tableRoom (l : Launch) (g : Gm) (sz : Nat) (ws : va_W) (h0 : Nat) (hG : Good g ws) (o_h0 : gC ws h0 2) (tk0 : wfO g ws h0 (0 : Int32)) : Met l yX2_tableRoom (wt yX2_tableRoom cX2_tableRoom 4 (some .int)) ({ frames := 4, cells := 0, slots := 0, locals := 88 }) (va_Pc [.ref h0] (st_G g sz ws)) (va_Qi (fun (r : Int32) (u9 : va_W) => 0 ≤ r.toInt ∧ r.toInt ≤ 1200) (gQ1 g [(2, 9), (2, 10), (2, 11)] [] none (va_A ws sz) ws) (va_A ws sz)) (0) (0) (va_A ws sz) := by
  refine Met.ofW (cc := cX2_tableRoom) (maxL := 4) (ret := (some .int)) (by decide) rfl ?_
  intro p e s m args below meth c s₁ B hml hv
  obtain ⟨rfl, hsz, hP, hK, hD0, hex, hE⟩ := hv
  have hx := B.exec
  have hb := B.bytes
  have hr := B.returns
  have hts0 := atoms_spec (ws := wt yX2_tableRoom cX2_tableRoom 4 (some .int)) B.pre
  have hts : ∀ w ∈ tb, w.before _ s = true := fun w h => hts0 w (List.mem_cons_of_mem _ h)
  have hown : s.vm.findClass RX2 = some m.cls := findClass_of_methodNamed B.named
  subst hsz
  have hD := hD0.self (sz := s.heap.size)
  generalize hAe : va_A ws s.heap.size = A at hD hE ⊢
  have hA : ∀ q : Nat, s.heap.size ≤ q → A q := fun q h => by rw [← hAe]; exact Or.inr h
  have hS : va_S A s.heap s.heap [] := va_S.rf
  have hl := lv_entry ([.ref h0]) (n := 4) (Nat.le_of_ble_eq_true rfl)
  rw [lg_entry_eq]
  generalize (lg_sl ([.ref h0]) ++ List.replicate (4 - (lg_sl ([.ref h0])).length) Slot.unset).toArray = ls at hl ⊢
  have hl : lv_has ls 4 [(0, .ref h0)] := hl
  refine lv_iconst (v := 0) hx hb dX2_tableRoom_0 (by decide) ?_
  refine lv_istore_n (lv' := [(1, .int 0), (0, .ref h0)]) hx hb dX2_tableRoom_1 rfl hl (by decide) rfl (fun ls hl => ?_)
  refine lv_iconst (v := 0) hx hb dX2_tableRoom_2 (by decide) ?_
  refine lv_istore_n (lv' := [(2, .int 0), (1, .int 0), (0, .ref h0)]) hx hb dX2_tableRoom_3 rfl hl (by decide) rfl (fun ls hl => ?_)
  have J_4 : ∀ (n9 : Nat) (v1_1 : Int32) (v2_2 : Int32) (ws_4 : va_W) (H : Heap) (locs : List Loc) (ls : Array Slot), (4000 - v2_2.toInt).toNat = n9 → 0 ≤ v2_2.toInt ∧ v2_2.toInt ≤ 1200 ∧ 0 ≤ v1_1.toInt ∧ v1_1.toInt ≤ v2_2.toInt → gE ws ws_4 → gF [(2, 9), (2, 10), (2, 11)] [] none ws ws_4 → Good g ws_4 → wfO g ws_4 h0 v2_2 → va_P (gD g) cl0 ws_4 H → va_D A ws_4 → va_S A s.heap H locs → lv_has ls 4 [(0, .ref h0), (1, .int v1_1), (2, .int v2_2)] → W p l e (headSpec (wt yX2_tableRoom cX2_tableRoom 4 (some .int)) ({ frames := 4, cells := 0, slots := 0, locals := 88 })).room s m ([.ref h0] : List Value).toArray below meth c H locs (0) (0) (MQ below (va_Qi (fun (r : Int32) (u9 : va_W) => 0 ≤ r.toInt ∧ r.toInt ≤ 1200) (gQ1 g [(2, 9), (2, 10), (2, 11)] [] none A ws) A) ([.ref h0] : List Value).toArray s (0) (0) A) (F0 m 4 ls []) := by
    intro n9
    induction n9 using Nat.strongRecOn with
    | ind n9 ih_4 =>
      intro v1_1 v2_2 ws_4 H locs ls hm9 iv_3 E_5 Fr_6 hG jx_4_0 hP hD hS hl
      subst hm9
      have o_h0 := E_5.1 _ _ o_h0
      refine lv_iload_n hx hb dX2_tableRoom_4 rfl (lv_at hl 2 rfl) ?_
      refine lv_aload_n hx hb dX2_tableRoom_5 rfl (lv_at hl 0 rfl) ?_
      obtain ⟨k_7, fs9, hk_7⟩ := gC_of o_h0
      obtain ⟨r0_7, c1_7, c2_7, c3_7, c4_7, c5_7, c6_7, r7_7, n7_7, c8_7, c9_7, l10_7, c11_7, rfl, o_r0_7, a_r7_7, f2_7, f3_7, f4_7, -⟩ := (hG.1 _ _ _ _ hk_7).hX2 rfl
      refine va_get (D := gD g) (ci := 2) (v := .int c2_7) (C := RX2) (T := TX2) (N := 12) hx hb hts inX2 hown hK hP k_7 hk_7 rfl 2 (by decide) (hts _ kw_716) (fun _ h9 => h9) rfl dX2_tableRoom_6 ?_
      refine lv_icmp_ge (tgt := 74) hx hb dX2_tableRoom_9 (by decide) (fun c_8 => ?_) (fun c_8 => ?_)
      · refine lv_iconst (v := 0) hx hb dX2_tableRoom_74 (by decide) ?_
        refine lv_iload_n hx hb dX2_tableRoom_75 rfl (lv_at hl 1 rfl) ?_
        refine va_mmax hx hb (by rw [hml]; exact hl.1.symm) hown (hts _ kw_759) (hts _ kw_1747) (hts _ kw_1748) (hts _ kw_1746) (Nat.le_of_ble_eq_true rfl) (Nat.le_of_ble_eq_true rfl) (Nat.le_of_ble_eq_true rfl) (Nat.le_of_ble_eq_true rfl) dX2_tableRoom_76 ?_
        refine lv_topi (fun z_9 ez_9 => ?_)
        refine W.widen (k := 0) (n := 0) (Nat.le_of_ble_eq_true rfl) (Nat.le_of_ble_eq_true rfl) ?_
        exact W.iret (v := z_9) hx hb hr (fun t9 ht9 hW9 => ⟨⟨_, ws_4, rfl, (by have e0 : (0 : Int32).toInt = 0 := (by decide); have q_z_9 := i_max ez_9; have q_iv_3 := iv_3; have q_c_8 := i_le c_8; have q_f4_7 := f4_7; have g_c2_7 := i_rg c2_7; have g_v1_1 := i_rg v1_1; have g_v2_2 := i_rg v2_2; have g_z_9 := i_rg z_9; omega), ⟨E_5, Fr_6, hG, by rw [ht9]; exact hP, hD⟩⟩, hS.F ht9⟩) hS.2.2 dX2_tableRoom_79
      · refine lv_aload_n hx hb dX2_tableRoom_12 rfl (lv_at hl 0 rfl) ?_
        refine lv_iload_n hx hb dX2_tableRoom_13 rfl (lv_at hl 2 rfl) ?_
        have hFc := gfree hD hS hA
        refine va_callv (va_runV (As := [.int v2_2]) (rest := []) ⟨hx, hb, hml, hown, hts⟩ (m_X2_decode_y l g H.size ws_4 h0 (v2_2) hG o_h0) (cwV 1 hts (gd_V kw_769 kw_680 kw_681 kw_389 kw_679) rfl rfl rfl (by decide +kernel) ⟨Nat.le_of_ble_eq_true rfl, Nat.le_of_ble_eq_true rfl⟩) ⟨gblind, va_recv hK hP (ci := 2) (q0 := k_7) rfl hk_7, fun U hU hW9 => gmk hU hW9 hP hK hD hex hE hS hFc⟩ rfl rfl hl.1 rfl (lv_room (Nat.le_of_ble_eq_true rfl)) dX2_tableRoom_14 ⟨Nat.le_of_ble_eq_true rfl, Nat.le_of_ble_eq_true rfl⟩) hS (fun q _ h => hFc q h) hFc (fun  ws_10 t9 H1 locs ht9 hvm9 hw9 hB9 hz9 hk9 hS => ?_)
        obtain ⟨E_11, Fr_12, hG, hP1, hD1⟩ := hB9
        have hP : va_P (gD g) cl0 ws_10 H1 := by rw [← ht9]; exact hP1
        have hD : va_D A ws_10 := hD1.weaken (fun _ _ _ h => hFc _ h)
        obtain ⟨hw9, xp_15⟩ := hw9
        clear hP1 hD1 hz9 hk9 hvm9 ht9 hw9
        generalize H1 = H at hP hS ⊢
        have aa_16 := a_r7_7
        have o_h0 := E_11.1 _ _ o_h0
        refine lv_aload_n hx hb dX2_tableRoom_17 rfl (lv_at hl 0 rfl) ?_
        obtain ⟨fs9, hk_17, hq_17⟩ := ((gF.a (F' := [(2, 9), (2, 10), (2, 11)]) Fr_12 (fun _ h => h))) _ _ _ hk_7
        obtain ⟨r0_17, c1_17, c2_17, c3_17, c4_17, c5_17, c6_17, r7_17, n7_17, c8_17, c9_17, l10_17, c11_17, rfl, o_r0_17, a_r7_17, f2_17, f3_17, f4_17, -⟩ := (hG.1 _ _ _ _ hk_17).hX2 rfl
        obtain rfl := fe_i (hq_17 2 (by decide))
        refine va_get (D := gD g) (ci := 2) (v := .int c9_17) (C := RX2) (T := TX2) (N := 12) hx hb hts inX2 hown hK hP k_7 hk_17 rfl 9 (by decide) (hts _ kw_619) (fun _ h9 => h9) rfl dX2_tableRoom_18 ?_
        have hFc := gfree hD hS hA
        refine va_calli (va_runS (As := [.int c9_17]) (rest := []) ⟨hx, hb, hml, hown, hts⟩ (m_X6_isSwitch_y l g H.size ws_10 (c9_17) hG ) (va_cwS 1 hts (gd_S kw_630 kw_1233 kw_1207 kw_1232) rfl rfl rfl (by decide +kernel) ⟨Nat.le_of_ble_eq_true rfl, Nat.le_of_ble_eq_true rfl⟩) ⟨gblind, fun U hU hW9 => gmk hU hW9 hP hK hD hex hE hS hFc⟩ rfl rfl hl.1 rfl (lv_room (Nat.le_of_ble_eq_true rfl)) dX2_tableRoom_21 ⟨Nat.le_of_ble_eq_true rfl, Nat.le_of_ble_eq_true rfl⟩) hS (fun q _ h => hFc q h) hFc (fun r_18 u9 t9 H1 locs ht9 hvm9 hw9 hB9 hz9 hk9 hS => ?_)
        have hP : va_P (gD g) cl0 ws_10 H1 := by rw [← ht9]; exact hB9.1
        obtain ⟨hw9, xp_19⟩ := hw9
        have hz_r_18 : r_18 = 0 ∨ r_18 = 1 := hw9
        clear hB9 hz9 hk9 hvm9 ht9 hw9
        generalize H1 = H at hP hS ⊢
        refine lv_if_eq (tgt := 59) hx hb dX2_tableRoom_24 (by decide) (fun c_20 => ?_) (fun c_20 => ?_)
        · refine lv_iload_n hx hb dX2_tableRoom_59 rfl (lv_at hl 2 rfl) ?_
          refine lv_iconst (v := 1) hx hb dX2_tableRoom_60 (by decide) ?_
          refine lv_aload_n hx hb dX2_tableRoom_61 rfl (lv_at hl 0 rfl) ?_
          refine lv_iload_n hx hb dX2_tableRoom_62 rfl (lv_at hl 2 rfl) ?_
          have hFc := gfree hD hS hA
          refine va_calli (va_runV (As := [.int v2_2]) (rest := [.int 1, .int v2_2]) ⟨hx, hb, hml, hown, hts⟩ (m_X2_lengthAt_x l g H.size ws_10 h0 (v2_2) hG o_h0) (cwV 1 hts (gd_V kw_717 kw_723 kw_724 kw_389 kw_722) rfl rfl rfl (by decide +kernel) ⟨Nat.le_of_ble_eq_true rfl, Nat.le_of_ble_eq_true rfl⟩) ⟨gblind, va_recv hK hP (ci := 2) (q0 := k_7) rfl hk_17, fun U hU hW9 => gmk hU hW9 hP hK hD hex hE hS hFc⟩ rfl rfl hl.1 rfl (lv_room (Nat.le_of_ble_eq_true rfl)) dX2_tableRoom_63 ⟨Nat.le_of_ble_eq_true rfl, Nat.le_of_ble_eq_true rfl⟩) hS (fun q _ h => hFc q h) hFc (fun r_21 u9 t9 H1 locs ht9 hvm9 hw9 hB9 hz9 hk9 hS => ?_)
          have hP : va_P (gD g) cl0 ws_10 H1 := by rw [← ht9]; exact hB9.1
          obtain ⟨hw9, xp_22⟩ := hw9
          have h_r_21 := hw9
          clear hB9 hz9 hk9 hvm9 ht9 hw9
          generalize H1 = H at hP hS ⊢
          refine va_mmax hx hb (by rw [hml]; exact hl.1.symm) hown (hts _ kw_759) (hts _ kw_1747) (hts _ kw_1748) (hts _ kw_1746) (Nat.le_of_ble_eq_true rfl) (Nat.le_of_ble_eq_true rfl) (Nat.le_of_ble_eq_true rfl) (Nat.le_of_ble_eq_true rfl) dX2_tableRoom_66 ?_
          refine lv_topi (fun z_23 ez_23 => ?_)
          refine lv_iadd hx hb dX2_tableRoom_69 ?_
          refine lv_topi (fun z_24 ez_24 => ?_)
          have tq_25 : wfO g ws_10 h0 v2_2 := wfO_mo (Fr_12) (by decide) (by decide) (by decide) (by decide) (by decide) (by decide) jx_4_0
          obtain ⟨wp_26, wh_27⟩ := wfO_st (m := z_23) hD hk_17 rfl rfl rfl xp_22 (by have e1 : (1 : Int32).toInt = 1 := (by decide); have q_iv_3 := iv_3; have q_f4_7 := f4_7; have q_c_8 := i_nle c_8; have q_r_21 := h_r_21; obtain ⟨u_z_24, q_z_24⟩ := i_add ez_24; have q_z_23 := i_max ez_23; have g_c2_7 := i_rg c2_7; have g_r_21 := i_rg r_21; have g_v1_1 := i_rg v1_1; have g_v2_2 := i_rg v2_2; have g_z_23 := i_rg z_23; have g_z_24 := i_rg z_24; omega) (fun h9 => (by have e1 : (1 : Int32).toInt = 1 := (by decide); have q_r_21 := h_r_21; have q_z_23 := i_max ez_23; obtain ⟨u_z_24, q_z_24⟩ := i_add ez_24; have q_iv_3 := iv_3; have q_c_8 := i_nle c_8; have q_f4_7 := f4_7; have g_c2_7 := i_rg c2_7; have g_r_21 := i_rg r_21; have g_v1_1 := i_rg v1_1; have g_v2_2 := i_rg v2_2; have g_z_23 := i_rg z_23; have g_z_24 := i_rg z_24; omega)) ez_24 tq_25
          have wl_28 := wfO_le hD hk_17 rfl rfl rfl xp_22 (by have e1 : (1 : Int32).toInt = 1 := (by decide); have q_iv_3 := iv_3; have q_f4_7 := f4_7; have q_c_8 := i_nle c_8; have q_r_21 := h_r_21; obtain ⟨u_z_24, q_z_24⟩ := i_add ez_24; have q_z_23 := i_max ez_23; have q_wp_26 := wp_26; have g_c2_7 := i_rg c2_7; have g_r_21 := i_rg r_21; have g_v1_1 := i_rg v1_1; have g_v2_2 := i_rg v2_2; have g_z_23 := i_rg z_23; have g_z_24 := i_rg z_24; omega) wp_26 (by have e1 : (1 : Int32).toInt = 1 := (by decide); have q_iv_3 := iv_3; have q_f4_7 := f4_7; have q_c_8 := i_nle c_8; have q_r_21 := h_r_21; have q_z_23 := i_max ez_23; obtain ⟨u_z_24, q_z_24⟩ := i_add ez_24; have q_wp_26 := wp_26; have g_c2_7 := i_rg c2_7; have g_r_21 := i_rg r_21; have g_v1_1 := i_rg v1_1; have g_v2_2 := i_rg v2_2; have g_z_23 := i_rg z_23; have g_z_24 := i_rg z_24; omega) tq_25
          refine lv_istore_n (lv' := [(2, .int z_24), (0, .ref h0), (1, .int v1_1)]) hx hb dX2_tableRoom_70 rfl hl (by decide) rfl (fun ls hl => ?_)
          refine lv_goto (tgt := 4) hx hb dX2_tableRoom_71 (by decide) ?_
          exact ih_4 _ (by have e1 : (1 : Int32).toInt = 1 := (by decide); have q_iv_3 := iv_3; obtain ⟨u_z_24, q_z_24⟩ := i_add ez_24; have q_c_8 := i_nle c_8; have q_r_21 := h_r_21; have q_z_23 := i_max ez_23; have q_wl_28 := wl_28; have q_f4_7 := f4_7; have q_wp_26 := wp_26; have g_c2_7 := i_rg c2_7; have g_r_21 := i_rg r_21; have g_v1_1 := i_rg v1_1; have g_v2_2 := i_rg v2_2; have g_z_23 := i_rg z_23; have g_z_24 := i_rg z_24; omega) (v1_1) (z_24) ws_10 H locs ls rfl (by have e1 : (1 : Int32).toInt = 1 := (by decide); have q_iv_3 := iv_3; obtain ⟨u_z_24, q_z_24⟩ := i_add ez_24; have q_c_8 := i_nle c_8; have q_r_21 := h_r_21; have q_z_23 := i_max ez_23; have q_wl_28 := wl_28; have q_f4_7 := f4_7; have q_wp_26 := wp_26; have g_c2_7 := i_rg c2_7; have g_r_21 := i_rg r_21; have g_v1_1 := i_rg v1_1; have g_v2_2 := i_rg v2_2; have g_z_23 := i_rg z_23; have g_z_24 := i_rg z_24; omega) ((E_5.tr E_11)) ((gF.tr Fr_6 Fr_12)) hG wh_27 hP hD hS (lv_sub hl [1, 2, 0] rfl)
        · refine lv_aload_n hx hb dX2_tableRoom_27 rfl (lv_at hl 0 rfl) ?_
          refine lv_aload_n hx hb dX2_tableRoom_28 rfl (lv_at hl 0 rfl) ?_
          refine va_get (D := gD g) (ci := 2) (v := .long l10_17) (C := RX2) (T := TX2) (N := 12) hx hb hts inX2 hown hK hP k_7 hk_17 rfl 10 (by decide) (hts _ kw_617) (fun _ h9 => h9) rfl dX2_tableRoom_29 ?_
          obtain ⟨z_29, ez_29⟩ : ∃ y : Int32, (l10_17 : Int64).toInt32 = y := ⟨_, rfl⟩
          refine lv_l2i (v := z_29) hx hb dX2_tableRoom_32 ez_29 ?_
          have hFc := gfree hD hS hA
          refine va_calli (va_runV (As := [.int z_29]) (rest := []) ⟨hx, hb, hml, hown, hts⟩ (m_X2_switchCount_y l g H.size ws_10 h0 (z_29) hG o_h0) (cwV 1 hts (gd_V kw_618 kw_796 kw_797 kw_389 kw_795) rfl rfl rfl (by decide +kernel) ⟨Nat.le_of_ble_eq_true rfl, Nat.le_of_ble_eq_true rfl⟩) ⟨gblind, va_recv hK hP (ci := 2) (q0 := k_7) rfl hk_17, fun U hU hW9 => gmk hU hW9 hP hK hD hex hE hS hFc⟩ rfl rfl hl.1 rfl (lv_room (Nat.le_of_ble_eq_true rfl)) dX2_tableRoom_33 ⟨Nat.le_of_ble_eq_true rfl, Nat.le_of_ble_eq_true rfl⟩) hS (fun q _ h => hFc q h) hFc (fun r_30 u9 t9 H1 locs ht9 hvm9 hw9 hB9 hz9 hk9 hS => ?_)
          have hP : va_P (gD g) cl0 ws_10 H1 := by rw [← ht9]; exact hB9.1
          obtain ⟨hw9, xp_31⟩ := hw9
          clear hB9 hz9 hk9 hvm9 ht9 hw9
          generalize H1 = H at hP hS ⊢
          refine lv_istore_n (lv' := [(3, .int r_30), (0, .ref h0), (1, .int v1_1), (2, .int v2_2)]) hx hb dX2_tableRoom_36 rfl hl (by decide) rfl (fun ls hl => ?_)
          refine lv_iload_n hx hb dX2_tableRoom_37 rfl (lv_at hl 2 rfl) ?_
          refine lv_iconst (v := 3) hx hb dX2_tableRoom_38 (by decide) ?_
          refine lv_aload_n hx hb dX2_tableRoom_39 rfl (lv_at hl 1 rfl) ?_
          refine va_get (D := gD g) (ci := 2) (v := .int c9_17) (C := RX2) (T := TX2) (N := 12) hx hb hts inX2 hown hK hP k_7 hk_17 rfl 9 (by decide) (hts _ kw_619) (fun _ h9 => h9) rfl dX2_tableRoom_40 ?_
          refine lv_sipush (v := 170) hx hb dX2_tableRoom_43 (by decide) ?_
          refine lv_icmp_ne (tgt := 53) hx hb dX2_tableRoom_46 (by decide) (fun c_32 => ?_) (fun c_32 => ?_)
          · refine lv_iconst (v := 2) hx hb dX2_tableRoom_53 (by decide) ?_
            refine lv_iload_n hx hb dX2_tableRoom_54 rfl (lv_at hl 0 rfl) ?_
            refine lv_imul hx hb dX2_tableRoom_55 ?_
            refine lv_topi (fun z_33 ez_33 => ?_)
            refine lv_iadd hx hb dX2_tableRoom_56 ?_
            refine lv_topi (fun z_34 ez_34 => ?_)
            refine lv_iadd hx hb dX2_tableRoom_57 ?_
            refine lv_topi (fun z_35 ez_35 => ?_)
            refine lv_istore_n (lv' := [(1, .int z_35), (3, .int r_30), (0, .ref h0), (2, .int v2_2)]) hx hb dX2_tableRoom_58 rfl hl (by decide) rfl (fun ls hl => ?_)
            refine lv_iload_n hx hb dX2_tableRoom_59 rfl (lv_at hl 3 rfl) ?_
            refine lv_iconst (v := 1) hx hb dX2_tableRoom_60 (by decide) ?_
            refine lv_aload_n hx hb dX2_tableRoom_61 rfl (lv_at hl 2 rfl) ?_
            refine lv_iload_n hx hb dX2_tableRoom_62 rfl (lv_at hl 3 rfl) ?_
            have hFc := gfree hD hS hA
            refine va_calli (va_runV (As := [.int v2_2]) (rest := [.int 1, .int v2_2]) ⟨hx, hb, hml, hown, hts⟩ (m_X2_lengthAt_x l g H.size ws_10 h0 (v2_2) hG o_h0) (cwV 1 hts (gd_V kw_717 kw_723 kw_724 kw_389 kw_722) rfl rfl rfl (by decide +kernel) ⟨Nat.le_of_ble_eq_true rfl, Nat.le_of_ble_eq_true rfl⟩) ⟨gblind, va_recv hK hP (ci := 2) (q0 := k_7) rfl hk_17, fun U hU hW9 => gmk hU hW9 hP hK hD hex hE hS hFc⟩ rfl rfl hl.1 rfl (lv_room (Nat.le_of_ble_eq_true rfl)) dX2_tableRoom_63 ⟨Nat.le_of_ble_eq_true rfl, Nat.le_of_ble_eq_true rfl⟩) hS (fun q _ h => hFc q h) hFc (fun r_36 u9 t9 H1 locs ht9 hvm9 hw9 hB9 hz9 hk9 hS => ?_)
            have hP : va_P (gD g) cl0 ws_10 H1 := by rw [← ht9]; exact hB9.1
            obtain ⟨hw9, xp_37⟩ := hw9
            have h_r_36 := hw9
            clear hB9 hz9 hk9 hvm9 ht9 hw9
            generalize H1 = H at hP hS ⊢
            refine va_mmax hx hb (by rw [hml]; exact hl.1.symm) hown (hts _ kw_759) (hts _ kw_1747) (hts _ kw_1748) (hts _ kw_1746) (Nat.le_of_ble_eq_true rfl) (Nat.le_of_ble_eq_true rfl) (Nat.le_of_ble_eq_true rfl) (Nat.le_of_ble_eq_true rfl) dX2_tableRoom_66 ?_
            refine lv_topi (fun z_38 ez_38 => ?_)
            refine lv_iadd hx hb dX2_tableRoom_69 ?_
            refine lv_topi (fun z_39 ez_39 => ?_)
            have tq_40 : wfO g ws_10 h0 v2_2 := wfO_mo (Fr_12) (by decide) (by decide) (by decide) (by decide) (by decide) (by decide) jx_4_0
            obtain ⟨wp_41, wh_42⟩ := wfO_st (m := z_38) hD hk_17 rfl rfl rfl xp_37 (by have e1 : (1 : Int32).toInt = 1 := (by decide); have e3 : (3 : Int32).toInt = 3 := (by decide); have q_iv_3 := iv_3; have q_f4_7 := f4_7; have q_c_8 := i_nle c_8; have q_r_36 := h_r_36; obtain ⟨u_z_39, q_z_39⟩ := i_add ez_39; obtain ⟨u_z_35, q_z_35⟩ := i_add ez_35; have q_z_38 := i_max ez_38; obtain ⟨u_z_34, q_z_34⟩ := i_add ez_34; have q_z_33 := i_mulL (c := 2) (K := 1073741823) ez_33 (by decide) (by decide) (by decide) (by decide); have g_c2_7 := i_rg c2_7; have g_r_30 := i_rg r_30; have g_r_36 := i_rg r_36; have g_v1_1 := i_rg v1_1; have g_v2_2 := i_rg v2_2; have g_z_33 := i_rg z_33; have g_z_34 := i_rg z_34; have g_z_35 := i_rg z_35; have g_z_38 := i_rg z_38; have g_z_39 := i_rg z_39; omega) (fun h9 => (by have e1 : (1 : Int32).toInt = 1 := (by decide); have e3 : (3 : Int32).toInt = 3 := (by decide); have q_r_36 := h_r_36; have q_z_38 := i_max ez_38; obtain ⟨u_z_39, q_z_39⟩ := i_add ez_39; have q_iv_3 := iv_3; have q_c_8 := i_nle c_8; have q_f4_7 := f4_7; obtain ⟨u_z_35, q_z_35⟩ := i_add ez_35; obtain ⟨u_z_34, q_z_34⟩ := i_add ez_34; have q_z_33 := i_mulL (c := 2) (K := 1073741823) ez_33 (by decide) (by decide) (by decide) (by decide); have g_c2_7 := i_rg c2_7; have g_r_30 := i_rg r_30; have g_r_36 := i_rg r_36; have g_v1_1 := i_rg v1_1; have g_v2_2 := i_rg v2_2; have g_z_33 := i_rg z_33; have g_z_34 := i_rg z_34; have g_z_35 := i_rg z_35; have g_z_38 := i_rg z_38; have g_z_39 := i_rg z_39; omega)) ez_39 tq_40
            have wl_43 := wfO_le hD hk_17 rfl rfl rfl xp_37 (by have e1 : (1 : Int32).toInt = 1 := (by decide); have e3 : (3 : Int32).toInt = 3 := (by decide); have q_iv_3 := iv_3; have q_f4_7 := f4_7; have q_c_8 := i_nle c_8; have q_r_36 := h_r_36; obtain ⟨u_z_39, q_z_39⟩ := i_add ez_39; obtain ⟨u_z_35, q_z_35⟩ := i_add ez_35; have q_z_38 := i_max ez_38; have q_wp_41 := wp_41; obtain ⟨u_z_34, q_z_34⟩ := i_add ez_34; have q_z_33 := i_mulL (c := 2) (K := 1073741823) ez_33 (by decide) (by decide) (by decide) (by decide); have g_c2_7 := i_rg c2_7; have g_r_30 := i_rg r_30; have g_r_36 := i_rg r_36; have g_v1_1 := i_rg v1_1; have g_v2_2 := i_rg v2_2; have g_z_33 := i_rg z_33; have g_z_34 := i_rg z_34; have g_z_35 := i_rg z_35; have g_z_38 := i_rg z_38; have g_z_39 := i_rg z_39; omega) wp_41 (by have e1 : (1 : Int32).toInt = 1 := (by decide); have e3 : (3 : Int32).toInt = 3 := (by decide); have q_iv_3 := iv_3; have q_f4_7 := f4_7; have q_c_8 := i_nle c_8; have q_r_36 := h_r_36; have q_z_38 := i_max ez_38; obtain ⟨u_z_39, q_z_39⟩ := i_add ez_39; have q_wp_41 := wp_41; obtain ⟨u_z_35, q_z_35⟩ := i_add ez_35; obtain ⟨u_z_34, q_z_34⟩ := i_add ez_34; have q_z_33 := i_mulL (c := 2) (K := 1073741823) ez_33 (by decide) (by decide) (by decide) (by decide); have g_c2_7 := i_rg c2_7; have g_r_30 := i_rg r_30; have g_r_36 := i_rg r_36; have g_v1_1 := i_rg v1_1; have g_v2_2 := i_rg v2_2; have g_z_33 := i_rg z_33; have g_z_34 := i_rg z_34; have g_z_35 := i_rg z_35; have g_z_38 := i_rg z_38; have g_z_39 := i_rg z_39; omega) tq_40
            have sr_44 := sw_room hD hk_17 rfl rfl rfl rfl rfl xp_15 jx_4_0 (fun _ _ _ _ _ q9 => vx_mo (Fr_12) (by decide) (by decide) (by decide) (by decide) (by decide) (by decide) q9) xp_37 xp_31 (xp_19.mp (by have e0 : (0 : Int32).toInt = 0 := (by decide); have q_c_20 := i_ne c_20; have g_r_18 := i_rg r_18; have b_r_18 := i_bit hz_r_18; omega)) ez_29 (by have e1 : (1 : Int32).toInt = 1 := (by decide); have e3 : (3 : Int32).toInt = 3 := (by decide); have q_iv_3 := iv_3; have q_f4_7 := f4_7; have q_c_8 := i_nle c_8; have q_r_36 := h_r_36; obtain ⟨u_z_39, q_z_39⟩ := i_add ez_39; have q_wl_43 := wl_43; obtain ⟨u_z_35, q_z_35⟩ := i_add ez_35; have q_z_38 := i_max ez_38; have q_wp_41 := wp_41; obtain ⟨u_z_34, q_z_34⟩ := i_add ez_34; have q_z_33 := i_mulL (c := 2) (K := 1073741823) ez_33 (by decide) (by decide) (by decide) (by decide); have g_c2_7 := i_rg c2_7; have g_r_30 := i_rg r_30; have g_r_36 := i_rg r_36; have g_v1_1 := i_rg v1_1; have g_v2_2 := i_rg v2_2; have g_z_33 := i_rg z_33; have g_z_34 := i_rg z_34; have g_z_35 := i_rg z_35; have g_z_38 := i_rg z_38; have g_z_39 := i_rg z_39; omega) (by have e1 : (1 : Int32).toInt = 1 := (by decide); have e3 : (3 : Int32).toInt = 3 := (by decide); have q_iv_3 := iv_3; have q_f4_7 := f4_7; have q_c_8 := i_nle c_8; have q_r_36 := h_r_36; obtain ⟨u_z_39, q_z_39⟩ := i_add ez_39; have q_wl_43 := wl_43; obtain ⟨u_z_35, q_z_35⟩ := i_add ez_35; have q_z_38 := i_max ez_38; have q_wp_41 := wp_41; obtain ⟨u_z_34, q_z_34⟩ := i_add ez_34; have q_z_33 := i_mulL (c := 2) (K := 1073741823) ez_33 (by decide) (by decide) (by decide) (by decide); have g_c2_7 := i_rg c2_7; have g_r_30 := i_rg r_30; have g_r_36 := i_rg r_36; have g_v1_1 := i_rg v1_1; have g_v2_2 := i_rg v2_2; have g_z_33 := i_rg z_33; have g_z_34 := i_rg z_34; have g_z_35 := i_rg z_35; have g_z_38 := i_rg z_38; have g_z_39 := i_rg z_39; omega)
            refine lv_istore_n (lv' := [(2, .int z_39), (1, .int z_35), (3, .int r_30), (0, .ref h0)]) hx hb dX2_tableRoom_70 rfl hl (by decide) rfl (fun ls hl => ?_)
            refine lv_goto (tgt := 4) hx hb dX2_tableRoom_71 (by decide) ?_
            exact ih_4 _ (by have e1 : (1 : Int32).toInt = 1 := (by decide); have e3 : (3 : Int32).toInt = 3 := (by decide); have e170 : (170 : Int32).toInt = 170 := (by decide); obtain ⟨u_z_35, q_z_35⟩ := i_add ez_35; obtain ⟨u_z_39, q_z_39⟩ := i_add ez_39; have q_iv_3 := iv_3; have q_c_8 := i_nle c_8; obtain ⟨u_z_34, q_z_34⟩ := i_add ez_34; have q_r_36 := h_r_36; have q_z_38 := i_max ez_38; have q_wl_43 := wl_43; have q_f4_7 := f4_7; have q_z_33 := i_mulL (c := 2) (K := 1073741823) ez_33 (by decide) (by decide) (by decide) (by decide); have q_wp_41 := wp_41; have q_sr_44 := sr_44; have q_c_32 := i_ne c_32; have g_c2_7 := i_rg c2_7; have g_c9_17 := i_rg c9_17; have g_r_30 := i_rg r_30; have g_r_36 := i_rg r_36; have g_v1_1 := i_rg v1_1; have g_v2_2 := i_rg v2_2; have g_z_33 := i_rg z_33; have g_z_34 := i_rg z_34; have g_z_35 := i_rg z_35; have g_z_38 := i_rg z_38; have g_z_39 := i_rg z_39; omega) (z_35) (z_39) ws_10 H locs ls rfl (by have e1 : (1 : Int32).toInt = 1 := (by decide); have e3 : (3 : Int32).toInt = 3 := (by decide); have e170 : (170 : Int32).toInt = 170 := (by decide); obtain ⟨u_z_35, q_z_35⟩ := i_add ez_35; obtain ⟨u_z_39, q_z_39⟩ := i_add ez_39; have q_iv_3 := iv_3; have q_c_8 := i_nle c_8; obtain ⟨u_z_34, q_z_34⟩ := i_add ez_34; have q_r_36 := h_r_36; have q_z_38 := i_max ez_38; have q_wl_43 := wl_43; have q_f4_7 := f4_7; have q_z_33 := i_mulL (c := 2) (K := 1073741823) ez_33 (by decide) (by decide) (by decide) (by decide); have q_wp_41 := wp_41; have q_sr_44 := sr_44; have q_c_32 := i_ne c_32; have g_c2_7 := i_rg c2_7; have g_c9_17 := i_rg c9_17; have g_r_30 := i_rg r_30; have g_r_36 := i_rg r_36; have g_v1_1 := i_rg v1_1; have g_v2_2 := i_rg v2_2; have g_z_33 := i_rg z_33; have g_z_34 := i_rg z_34; have g_z_35 := i_rg z_35; have g_z_38 := i_rg z_38; have g_z_39 := i_rg z_39; omega) ((E_5.tr E_11)) ((gF.tr Fr_6 Fr_12)) hG wh_42 hP hD hS (lv_sub hl [3, 1, 0] rfl)
          · refine lv_iload_n hx hb dX2_tableRoom_49 rfl (lv_at hl 0 rfl) ?_
            refine lv_goto (tgt := 56) hx hb dX2_tableRoom_50 (by decide) ?_
            refine lv_iadd hx hb dX2_tableRoom_56 ?_
            refine lv_topi (fun z_45 ez_45 => ?_)
            refine lv_iadd hx hb dX2_tableRoom_57 ?_
            refine lv_topi (fun z_46 ez_46 => ?_)
            refine lv_istore_n (lv' := [(1, .int z_46), (3, .int r_30), (0, .ref h0), (2, .int v2_2)]) hx hb dX2_tableRoom_58 rfl hl (by decide) rfl (fun ls hl => ?_)
            refine lv_iload_n hx hb dX2_tableRoom_59 rfl (lv_at hl 3 rfl) ?_
            refine lv_iconst (v := 1) hx hb dX2_tableRoom_60 (by decide) ?_
            refine lv_aload_n hx hb dX2_tableRoom_61 rfl (lv_at hl 2 rfl) ?_
            refine lv_iload_n hx hb dX2_tableRoom_62 rfl (lv_at hl 3 rfl) ?_
            have hFc := gfree hD hS hA
            refine va_calli (va_runV (As := [.int v2_2]) (rest := [.int 1, .int v2_2]) ⟨hx, hb, hml, hown, hts⟩ (m_X2_lengthAt_x l g H.size ws_10 h0 (v2_2) hG o_h0) (cwV 1 hts (gd_V kw_717 kw_723 kw_724 kw_389 kw_722) rfl rfl rfl (by decide +kernel) ⟨Nat.le_of_ble_eq_true rfl, Nat.le_of_ble_eq_true rfl⟩) ⟨gblind, va_recv hK hP (ci := 2) (q0 := k_7) rfl hk_17, fun U hU hW9 => gmk hU hW9 hP hK hD hex hE hS hFc⟩ rfl rfl hl.1 rfl (lv_room (Nat.le_of_ble_eq_true rfl)) dX2_tableRoom_63 ⟨Nat.le_of_ble_eq_true rfl, Nat.le_of_ble_eq_true rfl⟩) hS (fun q _ h => hFc q h) hFc (fun r_47 u9 t9 H1 locs ht9 hvm9 hw9 hB9 hz9 hk9 hS => ?_)
            have hP : va_P (gD g) cl0 ws_10 H1 := by rw [← ht9]; exact hB9.1
            obtain ⟨hw9, xp_48⟩ := hw9
            have h_r_47 := hw9
            clear hB9 hz9 hk9 hvm9 ht9 hw9
            generalize H1 = H at hP hS ⊢
            refine va_mmax hx hb (by rw [hml]; exact hl.1.symm) hown (hts _ kw_759) (hts _ kw_1747) (hts _ kw_1748) (hts _ kw_1746) (Nat.le_of_ble_eq_true rfl) (Nat.le_of_ble_eq_true rfl) (Nat.le_of_ble_eq_true rfl) (Nat.le_of_ble_eq_true rfl) dX2_tableRoom_66 ?_
            refine lv_topi (fun z_49 ez_49 => ?_)
            refine lv_iadd hx hb dX2_tableRoom_69 ?_
            refine lv_topi (fun z_50 ez_50 => ?_)
            have tq_51 : wfO g ws_10 h0 v2_2 := wfO_mo (Fr_12) (by decide) (by decide) (by decide) (by decide) (by decide) (by decide) jx_4_0
            obtain ⟨wp_52, wh_53⟩ := wfO_st (m := z_49) hD hk_17 rfl rfl rfl xp_48 (by have e1 : (1 : Int32).toInt = 1 := (by decide); have e3 : (3 : Int32).toInt = 3 := (by decide); have q_iv_3 := iv_3; have q_f4_7 := f4_7; have q_c_8 := i_nle c_8; have q_r_47 := h_r_47; obtain ⟨u_z_50, q_z_50⟩ := i_add ez_50; obtain ⟨u_z_46, q_z_46⟩ := i_add ez_46; have q_z_49 := i_max ez_49; obtain ⟨u_z_45, q_z_45⟩ := i_add ez_45; have g_c2_7 := i_rg c2_7; have g_r_30 := i_rg r_30; have g_r_47 := i_rg r_47; have g_v1_1 := i_rg v1_1; have g_v2_2 := i_rg v2_2; have g_z_45 := i_rg z_45; have g_z_46 := i_rg z_46; have g_z_49 := i_rg z_49; have g_z_50 := i_rg z_50; omega) (fun h9 => (by have e1 : (1 : Int32).toInt = 1 := (by decide); have e3 : (3 : Int32).toInt = 3 := (by decide); have q_r_47 := h_r_47; have q_z_49 := i_max ez_49; obtain ⟨u_z_50, q_z_50⟩ := i_add ez_50; have q_iv_3 := iv_3; have q_c_8 := i_nle c_8; have q_f4_7 := f4_7; obtain ⟨u_z_46, q_z_46⟩ := i_add ez_46; obtain ⟨u_z_45, q_z_45⟩ := i_add ez_45; have g_c2_7 := i_rg c2_7; have g_r_30 := i_rg r_30; have g_r_47 := i_rg r_47; have g_v1_1 := i_rg v1_1; have g_v2_2 := i_rg v2_2; have g_z_45 := i_rg z_45; have g_z_46 := i_rg z_46; have g_z_49 := i_rg z_49; have g_z_50 := i_rg z_50; omega)) ez_50 tq_51
            have wl_54 := wfO_le hD hk_17 rfl rfl rfl xp_48 (by have e1 : (1 : Int32).toInt = 1 := (by decide); have e3 : (3 : Int32).toInt = 3 := (by decide); have q_iv_3 := iv_3; have q_f4_7 := f4_7; have q_c_8 := i_nle c_8; have q_r_47 := h_r_47; obtain ⟨u_z_50, q_z_50⟩ := i_add ez_50; obtain ⟨u_z_46, q_z_46⟩ := i_add ez_46; have q_z_49 := i_max ez_49; have q_wp_52 := wp_52; obtain ⟨u_z_45, q_z_45⟩ := i_add ez_45; have g_c2_7 := i_rg c2_7; have g_r_30 := i_rg r_30; have g_r_47 := i_rg r_47; have g_v1_1 := i_rg v1_1; have g_v2_2 := i_rg v2_2; have g_z_45 := i_rg z_45; have g_z_46 := i_rg z_46; have g_z_49 := i_rg z_49; have g_z_50 := i_rg z_50; omega) wp_52 (by have e1 : (1 : Int32).toInt = 1 := (by decide); have e3 : (3 : Int32).toInt = 3 := (by decide); have q_iv_3 := iv_3; have q_f4_7 := f4_7; have q_c_8 := i_nle c_8; have q_r_47 := h_r_47; have q_z_49 := i_max ez_49; obtain ⟨u_z_50, q_z_50⟩ := i_add ez_50; have q_wp_52 := wp_52; obtain ⟨u_z_46, q_z_46⟩ := i_add ez_46; obtain ⟨u_z_45, q_z_45⟩ := i_add ez_45; have g_c2_7 := i_rg c2_7; have g_r_30 := i_rg r_30; have g_r_47 := i_rg r_47; have g_v1_1 := i_rg v1_1; have g_v2_2 := i_rg v2_2; have g_z_45 := i_rg z_45; have g_z_46 := i_rg z_46; have g_z_49 := i_rg z_49; have g_z_50 := i_rg z_50; omega) tq_51
            have sr_55 := sw_room hD hk_17 rfl rfl rfl rfl rfl xp_15 jx_4_0 (fun _ _ _ _ _ q9 => vx_mo (Fr_12) (by decide) (by decide) (by decide) (by decide) (by decide) (by decide) q9) xp_48 xp_31 (xp_19.mp (by have e0 : (0 : Int32).toInt = 0 := (by decide); have q_c_20 := i_ne c_20; have g_r_18 := i_rg r_18; have b_r_18 := i_bit hz_r_18; omega)) ez_29 (by have e1 : (1 : Int32).toInt = 1 := (by decide); have e3 : (3 : Int32).toInt = 3 := (by decide); have q_iv_3 := iv_3; have q_f4_7 := f4_7; have q_c_8 := i_nle c_8; have q_r_47 := h_r_47; obtain ⟨u_z_50, q_z_50⟩ := i_add ez_50; have q_wl_54 := wl_54; obtain ⟨u_z_46, q_z_46⟩ := i_add ez_46; have q_z_49 := i_max ez_49; have q_wp_52 := wp_52; obtain ⟨u_z_45, q_z_45⟩ := i_add ez_45; have g_c2_7 := i_rg c2_7; have g_r_30 := i_rg r_30; have g_r_47 := i_rg r_47; have g_v1_1 := i_rg v1_1; have g_v2_2 := i_rg v2_2; have g_z_45 := i_rg z_45; have g_z_46 := i_rg z_46; have g_z_49 := i_rg z_49; have g_z_50 := i_rg z_50; omega) (by have e1 : (1 : Int32).toInt = 1 := (by decide); have e3 : (3 : Int32).toInt = 3 := (by decide); have q_iv_3 := iv_3; have q_f4_7 := f4_7; have q_c_8 := i_nle c_8; have q_r_47 := h_r_47; obtain ⟨u_z_50, q_z_50⟩ := i_add ez_50; have q_wl_54 := wl_54; obtain ⟨u_z_46, q_z_46⟩ := i_add ez_46; have q_z_49 := i_max ez_49; have q_wp_52 := wp_52; obtain ⟨u_z_45, q_z_45⟩ := i_add ez_45; have g_c2_7 := i_rg c2_7; have g_r_30 := i_rg r_30; have g_r_47 := i_rg r_47; have g_v1_1 := i_rg v1_1; have g_v2_2 := i_rg v2_2; have g_z_45 := i_rg z_45; have g_z_46 := i_rg z_46; have g_z_49 := i_rg z_49; have g_z_50 := i_rg z_50; omega)
            refine lv_istore_n (lv' := [(2, .int z_50), (1, .int z_46), (3, .int r_30), (0, .ref h0)]) hx hb dX2_tableRoom_70 rfl hl (by decide) rfl (fun ls hl => ?_)
            refine lv_goto (tgt := 4) hx hb dX2_tableRoom_71 (by decide) ?_
            exact ih_4 _ (by have e1 : (1 : Int32).toInt = 1 := (by decide); have e3 : (3 : Int32).toInt = 3 := (by decide); have e170 : (170 : Int32).toInt = 170 := (by decide); obtain ⟨u_z_46, q_z_46⟩ := i_add ez_46; obtain ⟨u_z_50, q_z_50⟩ := i_add ez_50; have q_iv_3 := iv_3; have q_c_8 := i_nle c_8; obtain ⟨u_z_45, q_z_45⟩ := i_add ez_45; have q_r_47 := h_r_47; have q_z_49 := i_max ez_49; have q_wl_54 := wl_54; have q_f4_7 := f4_7; have q_wp_52 := wp_52; have q_sr_55 := sr_55; have q_c_32 := i_eq c_32; have g_c2_7 := i_rg c2_7; have g_c9_17 := i_rg c9_17; have g_r_30 := i_rg r_30; have g_r_47 := i_rg r_47; have g_v1_1 := i_rg v1_1; have g_v2_2 := i_rg v2_2; have g_z_45 := i_rg z_45; have g_z_46 := i_rg z_46; have g_z_49 := i_rg z_49; have g_z_50 := i_rg z_50; omega) (z_46) (z_50) ws_10 H locs ls rfl (by have e1 : (1 : Int32).toInt = 1 := (by decide); have e3 : (3 : Int32).toInt = 3 := (by decide); have e170 : (170 : Int32).toInt = 170 := (by decide); obtain ⟨u_z_46, q_z_46⟩ := i_add ez_46; obtain ⟨u_z_50, q_z_50⟩ := i_add ez_50; have q_iv_3 := iv_3; have q_c_8 := i_nle c_8; obtain ⟨u_z_45, q_z_45⟩ := i_add ez_45; have q_r_47 := h_r_47; have q_z_49 := i_max ez_49; have q_wl_54 := wl_54; have q_f4_7 := f4_7; have q_wp_52 := wp_52; have q_sr_55 := sr_55; have q_c_32 := i_eq c_32; have g_c2_7 := i_rg c2_7; have g_c9_17 := i_rg c9_17; have g_r_30 := i_rg r_30; have g_r_47 := i_rg r_47; have g_v1_1 := i_rg v1_1; have g_v2_2 := i_rg v2_2; have g_z_45 := i_rg z_45; have g_z_46 := i_rg z_46; have g_z_49 := i_rg z_49; have g_z_50 := i_rg z_50; omega) ((E_5.tr E_11)) ((gF.tr Fr_6 Fr_12)) hG wh_53 hP hD hS (lv_sub hl [3, 1, 0] rfl)
  exact J_4 _ (0) (0) ws _ _ ls rfl (by have e0 : (0 : Int32).toInt = 0 := (by decide); omega) (gE.rf) (gF.rf) hG tk0 hP hD hS (lv_sub hl [2, 1, 0] rfl)
