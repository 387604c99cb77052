set_option maxHeartbeats 1000000 in
set_option maxRecDepth 100000 in
theorem m_X2_decode_x (l : Launch) (g : Gm) (sz : Nat) (ws : va_W) (h0 : Nat) (x1 : Int32) (hG : Good g ws) (o_h0 : gC ws h0 2) : Met l yX2_decode (wt yX2_decode cX2_decode 3 none) ({ frames := 3, cells := 0, slots := 0, locals := 65 }) (va_Pc [.ref h0, .int x1] (st_G g sz ws)) (va_Qv (fun (u9 : va_W) => (True) ∧ (dcP ws u9 h0 x1 ∧ dcS ws u9 h0 x1)) (gQ1 g [(2, 9), (2, 10), (2, 11)] [] none (va_A ws sz) ws) (va_A ws sz)) (0) (0) (va_A ws sz) := by
  refine Met.ofW (cc := cX2_decode) (maxL := 3) (ret := none) (by decide) rfl ?_
  intro p e s m args below meth c s₁ B hml hv
  obtain ⟨rfl, hsz, hP, hK, hD0, hex, hE⟩ := hv
  have hx := B.exec
  have hb := B.bytes
  have hr := B.returns
  have hts0 := atoms_spec (ws := wt yX2_decode cX2_decode 3 none) B.pre
  have hts : ∀ w ∈ tb, w.before _ s = true := fun w h => hts0 w (List.mem_cons_of_mem _ h)
  have hown : s.vm.findClass RX2 = some m.cls := findClass_of_methodNamed B.named
  subst hsz
  have hD := hD0.self (sz := s.heap.size)
  generalize hAe : va_A ws s.heap.size = A at hD hE ⊢
  have hA : ∀ q : Nat, s.heap.size ≤ q → A q := fun q h => by rw [← hAe]; exact Or.inr h
  have hS : va_S A s.heap s.heap [] := va_S.rf
  have hl := lv_entry ([.ref h0, .int x1]) (n := 3) (Nat.le_of_ble_eq_true rfl)
  rw [lg_entry_eq]
  generalize (lg_sl ([.ref h0, .int x1]) ++ List.replicate (3 - (lg_sl ([.ref h0, .int x1])).length) Slot.unset).toArray = ls at hl ⊢
  have hl : lv_has ls 3 [(0, .ref h0), (1, .int x1)] := hl
  refine lv_aload_n hx hb dX2_decode_0 rfl (lv_at hl 0 rfl) ?_
  refine lv_iload_n hx hb dX2_decode_1 rfl (lv_at hl 1 rfl) ?_
  have hFc := gfree hD hS hA
  obtain ⟨k_1, fs_1, hk_1⟩ := gC_of o_h0
  refine va_calli (va_runV (As := [.int x1]) (rest := []) ⟨hx, hb, hml, hown, hts⟩ (m_X2_u1_x l g s.heap.size ws h0 (x1) hG o_h0) (cwV 1 hts (gd_V kw_682 kw_812 kw_813 kw_389 kw_811) rfl rfl rfl (by decide +kernel) ⟨Nat.le_of_ble_eq_true rfl, Nat.le_of_ble_eq_true rfl⟩) ⟨gblind, va_recv hK hP (ci := 2) (q0 := k_1) rfl hk_1, fun U hU hW9 => gmk hU hW9 hP hK hD hex hE hS hFc⟩ rfl rfl hl.1 rfl (lv_room (Nat.le_of_ble_eq_true rfl)) dX2_decode_2 ⟨Nat.le_of_ble_eq_true rfl, Nat.le_of_ble_eq_true rfl⟩) hS (fun q _ h => hFc q h) hFc (fun r_2 u9 t9 H1 locs ht9 hvm9 hw9 hB9 hz9 hk9 hS => ?_)
  have hP : va_P (gD g) cl0 ws H1 := by rw [← ht9]; exact hB9.1
  obtain ⟨hw9, xp_3⟩ := hw9
  clear hB9 hz9 hk9 hvm9 ht9 hw9
  generalize H1 = H at hP hS ⊢
  refine lv_istore_n (lv' := [(2, .int r_2), (0, .ref h0), (1, .int x1)]) hx hb dX2_decode_5 rfl hl (by decide) rfl (fun ls hl => ?_)
  refine lv_aload_n hx hb dX2_decode_6 rfl (lv_at hl 1 rfl) ?_
  refine lv_iload_n hx hb dX2_decode_7 rfl (lv_at hl 2 rfl) ?_
  obtain ⟨k_4, fs9, hk_4⟩ := gC_of o_h0
  obtain ⟨r0_4, c1_4, c2_4, c3_4, c4_4, c5_4, c6_4, r7_4, n7_4, c8_4, c9_4, l10_4, c11_4, rfl, o_r0_4, a_r7_4, f2_4, f3_4, f4_4, -⟩ := (hG.1 _ _ _ _ hk_4).hX2 rfl
  have hV9 : okv ws 2 11 (.int x1) := okv_i
  refine va_put (D := gD g) (ci := 2) (v := .int x1) (ty := .int) (C := RX2) (T := TX2) (N := 12) hx hb hts inX2 tyX2 tyX2_ok nmX2 hown hK hP hD hS k_4 hk_4 rfl 11 (by decide) (hts _ kw_683) (fun _ h9 => h9) rfl (by decide +kernel) rfl rfl (Nat.le_of_ble_eq_true rfl) dX2_decode_8 (fun H locs hP hD hS => ?_)
  have hi_5 : invX2 g ws h0 [.ref r0_4, .int c1_4, .int c2_4, .int c3_4, .int c4_4, .int c5_4, .int c6_4, .ref r7_4, .int c8_4, .int c9_4, .long l10_4, .int x1] := ⟨r0_4, (c1_4), (c2_4), (c3_4), (c4_4), (c5_4), (c6_4), r7_4, (n7_4), (c8_4), (c9_4), (l10_4), (x1), rfl, o_r0_4, a_r7_4, f2_4, f3_4, f4_4, trivial⟩
  obtain ⟨ws_6, e_ws_6⟩ : ∃ z, z = ws.set k_4 (h0, .inr (2, [.ref r0_4, .int c1_4, .int c2_4, .int c3_4, .int c4_4, .int c5_4, .int c6_4, .ref r7_4, .int c8_4, .int c9_4, .long l10_4, .int x1])) := ⟨_, rfl⟩
  have hP : va_P (gD g) cl0 ws_6 H := by rw [e_ws_6]; exact hP
  have hD : va_D A ws_6 := by rw [e_ws_6]; exact hD
  have E_7 : gE ws ws_6 := gE_set e_ws_6 hk_4 (cw_o (fi := 11) (v := .int x1) rfl (by decide))
  have hG : Good g ws_6 := Good_set (fi := 11) (v := .int x1) e_ws_6 hk_4 E_7 rfl hV9 hG (ivX2 hi_5)
  have Fr_8 : gF [(2, 11)] [] (some h0) ws ws_6 := gF_put (fi := 11) (v := .int x1) e_ws_6 hk_4 rfl (by decide)
  have hkN := gset_self e_ws_6 hk_4
  have hk_4 := hkN
  have o_h0 := E_7.1 _ _ o_h0
  have o_r0_4 := E_7.1 _ _ o_r0_4
  have a_r7_4 := E_7.1 _ _ a_r7_4
  refine lv_aload_n hx hb dX2_decode_11 rfl (lv_at hl 1 rfl) ?_
  refine lv_iload_n hx hb dX2_decode_12 rfl (lv_at hl 0 rfl) ?_
  have hV9 : okv ws_6 2 9 (.int r_2) := okv_i
  refine va_put (D := gD g) (ci := 2) (v := .int r_2) (ty := .int) (C := RX2) (T := TX2) (N := 12) hx hb hts inX2 tyX2 tyX2_ok nmX2 hown hK hP hD hS k_4 hk_4 rfl 9 (by decide) (hts _ kw_619) (fun _ h9 => h9) rfl (by decide +kernel) rfl rfl (Nat.le_of_ble_eq_true rfl) dX2_decode_13 (fun H locs hP hD hS => ?_)
  have hi_9 : invX2 g ws_6 h0 [.ref r0_4, .int c1_4, .int c2_4, .int c3_4, .int c4_4, .int c5_4, .int c6_4, .ref r7_4, .int c8_4, .int r_2, .long l10_4, .int x1] := ⟨r0_4, (c1_4), (c2_4), (c3_4), (c4_4), (c5_4), (c6_4), r7_4, (n7_4), (c8_4), (r_2), (l10_4), (x1), rfl, o_r0_4, a_r7_4, f2_4, f3_4, f4_4, trivial⟩
  obtain ⟨ws_10, e_ws_10⟩ : ∃ z, z = ws_6.set k_4 (h0, .inr (2, [.ref r0_4, .int c1_4, .int c2_4, .int c3_4, .int c4_4, .int c5_4, .int c6_4, .ref r7_4, .int c8_4, .int r_2, .long l10_4, .int x1])) := ⟨_, rfl⟩
  have hP : va_P (gD g) cl0 ws_10 H := by rw [e_ws_10]; exact hP
  have hD : va_D A ws_10 := by rw [e_ws_10]; exact hD
  have E_11 : gE ws_6 ws_10 := gE_set e_ws_10 hk_4 (cw_o (fi := 9) (v := .int r_2) rfl (by decide))
  have hG : Good g ws_10 := Good_set (fi := 9) (v := .int r_2) e_ws_10 hk_4 E_11 rfl hV9 hG (ivX2 hi_9)
  have Fr_12 : gF [(2, 9)] [] (some h0) ws_6 ws_10 := gF_put (fi := 9) (v := .int r_2) e_ws_10 hk_4 rfl (by decide)
  have hkN := gset_self e_ws_10 hk_4
  have hk_4 := hkN
  have o_h0 := E_11.1 _ _ o_h0
  have o_r0_4 := E_11.1 _ _ o_r0_4
  have a_r7_4 := E_11.1 _ _ a_r7_4
  refine lv_aload_n hx hb dX2_decode_16 rfl (lv_at hl 1 rfl) ?_
  refine lv_lconst (v := 0) hx hb dX2_decode_17 (by decide) ?_
  have hV9 : okv ws_10 2 10 (.long 0) := okv_l
  refine va_put (D := gD g) (ci := 2) (v := .long 0) (ty := .long) (C := RX2) (T := TX2) (N := 12) hx hb hts inX2 tyX2 tyX2_ok nmX2 hown hK hP hD hS k_4 hk_4 rfl 10 (by decide) (hts _ kw_617) (fun _ h9 => h9) rfl (by decide +kernel) rfl rfl (Nat.le_of_ble_eq_true rfl) dX2_decode_18 (fun H locs hP hD hS => ?_)
  have hi_13 : invX2 g ws_10 h0 [.ref r0_4, .int c1_4, .int c2_4, .int c3_4, .int c4_4, .int c5_4, .int c6_4, .ref r7_4, .int c8_4, .int r_2, .long 0, .int x1] := ⟨r0_4, (c1_4), (c2_4), (c3_4), (c4_4), (c5_4), (c6_4), r7_4, (n7_4), (c8_4), (r_2), (0), (x1), rfl, o_r0_4, a_r7_4, f2_4, f3_4, f4_4, trivial⟩
  obtain ⟨ws_14, e_ws_14⟩ : ∃ z, z = ws_10.set k_4 (h0, .inr (2, [.ref r0_4, .int c1_4, .int c2_4, .int c3_4, .int c4_4, .int c5_4, .int c6_4, .ref r7_4, .int c8_4, .int r_2, .long 0, .int x1])) := ⟨_, rfl⟩
  have hP : va_P (gD g) cl0 ws_14 H := by rw [e_ws_14]; exact hP
  have hD : va_D A ws_14 := by rw [e_ws_14]; exact hD
  have E_15 : gE ws_10 ws_14 := gE_set e_ws_14 hk_4 (cw_o (fi := 10) (v := .long 0) rfl (by decide))
  have hG : Good g ws_14 := Good_set (fi := 10) (v := .long 0) e_ws_14 hk_4 E_15 rfl hV9 hG (ivX2 hi_13)
  have Fr_16 : gF [(2, 10)] [] (some h0) ws_10 ws_14 := gF_put (fi := 10) (v := .long 0) e_ws_14 hk_4 rfl (by decide)
  have hkN := gset_self e_ws_14 hk_4
  have hk_4 := hkN
  have o_h0 := E_15.1 _ _ o_h0
  have o_r0_4 := E_15.1 _ _ o_r0_4
  have a_r7_4 := E_15.1 _ _ a_r7_4
  refine lv_iload_n hx hb dX2_decode_21 rfl (lv_at hl 0 rfl) ?_
  refine lv_iconst (v := 2) hx hb dX2_decode_22 (by decide) ?_
  refine lv_icmp_lt (tgt := 45) hx hb dX2_decode_23 (by decide) (fun c_17 => ?_) (fun c_17 => ?_)
  · refine lv_iload_n hx hb dX2_decode_45 rfl (lv_at hl 0 rfl) ?_
    refine lv_bipush (v := 9) hx hb dX2_decode_46 (by decide) ?_
    refine lv_icmp_eq (tgt := 57) hx hb dX2_decode_48 (by decide) (fun c_18 => ?_) (fun c_18 => ?_)
    · refine lv_aload_n hx hb dX2_decode_57 rfl (lv_at hl 1 rfl) ?_
      refine lv_bipush (v := 9) hx hb dX2_decode_58 (by decide) ?_
      refine lv_iload_n hx hb dX2_decode_60 rfl (lv_at hl 0 rfl) ?_
      refine lv_bipush (v := 9) hx hb dX2_decode_61 (by decide) ?_
      refine lv_isub hx hb dX2_decode_63 ?_
      refine lv_topi (fun z_19 ez_19 => ?_)
      obtain ⟨z_20, ez_20⟩ : ∃ y : Int64, (z_19 : Int32).toInt64 = y := ⟨_, rfl⟩
      refine lv_i2l (v := z_20) hx hb dX2_decode_64 ez_20 ?_
      have hFc := gfree hD hS hA
      refine va_callv (va_runV (As := [.int 9, .long z_20]) (rest := []) ⟨hx, hb, hml, hown, hts⟩ (m_X2_set_y l g H.size ws_14 h0 (9) (z_20) hG o_h0) (cwV 2 hts (gd_V kw_684 kw_793 kw_794 kw_389 kw_792) rfl rfl rfl (by decide +kernel) ⟨Nat.le_of_ble_eq_true rfl, Nat.le_of_ble_eq_true rfl⟩) ⟨gblind, va_recv hK hP (ci := 2) (q0 := k_4) rfl hk_4, fun U hU hW9 => gmk hU hW9 hP hK hD hex hE hS hFc⟩ rfl rfl hl.1 rfl (lv_room (Nat.le_of_ble_eq_true rfl)) dX2_decode_65 ⟨Nat.le_of_ble_eq_true rfl, Nat.le_of_ble_eq_true rfl⟩) hS (fun q _ h => hFc q h) hFc (fun  ws_21 t9 H1 locs ht9 hvm9 hw9 hB9 hz9 hk9 hS => ?_)
      obtain ⟨E_22, Fr_23, hG, hP1, hD1⟩ := hB9
      have hP : va_P (gD g) cl0 ws_21 H1 := by rw [← ht9]; exact hP1
      have hD : va_D A ws_21 := hD1.weaken (fun _ _ _ h => hFc _ h)
      obtain ⟨hw9, xp_26⟩ := hw9
      clear hP1 hD1 hz9 hk9 hvm9 ht9 hw9
      generalize H1 = H at hP hS ⊢
      have aa_27 := a_r7_4
      have o_h0 := E_22.1 _ _ o_h0
      refine lv_goto (tgt := 252) hx hb dX2_decode_68 (by decide) ?_
      refine W.widen (k := 0) (n := 0) (Nat.le_of_ble_eq_true rfl) (Nat.le_of_ble_eq_true rfl) ?_
      exact W.vret hx hb hr (fun t9 ht9 hW9 => ⟨⟨ws_21, rfl, ⟨trivial, ⟨⟨_, _, xp_26, fun h9 => absurd h9 (by unfold isS; decide)⟩, (fun f9 e9 n9 c9 s9 q9 hs => absurd (show isS r_2 from (by rw [xp_3 _ _ _ _ _ q9]; exact hs)) (by unfold isS; exact (by have e2 : (2 : Int32).toInt = 2 := (by decide); have e9 : (9 : Int32).toInt = 9 := (by decide); have q_c_17 := i_lt c_17; have q_c_18 := i_eq c_18; obtain ⟨u_z_19, q_z_19⟩ := i_sub ez_19; have q_z_20 := l_of ez_20; have g_r_2 := i_rg r_2; have g_z_19 := i_rg z_19; omega)))⟩⟩, ⟨(E_7.tr (E_11.tr (E_15.tr E_22))), (gF.tr (gF.mo (F' := [(2, 9), (2, 10), (2, 11)]) (C' := []) (S' := none) Fr_8 (by decide) (fun _ h => h) (Or.inl rfl)) (gF.tr (gF.mo (F' := [(2, 9), (2, 10), (2, 11)]) (C' := []) (S' := none) Fr_12 (by decide) (fun _ h => h) (Or.inl rfl)) (gF.tr (gF.mo (F' := [(2, 9), (2, 10), (2, 11)]) (C' := []) (S' := none) Fr_16 (by decide) (fun _ h => h) (Or.inl rfl)) (gF.mo (F' := [(2, 9), (2, 10), (2, 11)]) (C' := []) (S' := none) Fr_23 (by decide) (fun _ h => h) (Or.inr rfl))))), hG, by rw [ht9]; exact hP, hD⟩⟩, hS.F ht9⟩) hS.2.2 dX2_decode_252
    · refine lv_iload_n hx hb dX2_decode_51 rfl (lv_at hl 0 rfl) ?_
      refine lv_bipush (v := 10) hx hb dX2_decode_52 (by decide) ?_
      refine lv_icmp_ne (tgt := 71) hx hb dX2_decode_54 (by decide) (fun c_28 => ?_) (fun c_28 => ?_)
      · refine lv_iload_n hx hb dX2_decode_71 rfl (lv_at hl 0 rfl) ?_
        refine lv_bipush (v := 16) hx hb dX2_decode_72 (by decide) ?_
        refine lv_icmp_ne (tgt := 95) hx hb dX2_decode_74 (by decide) (fun c_29 => ?_) (fun c_29 => ?_)
        · refine lv_iload_n hx hb dX2_decode_95 rfl (lv_at hl 0 rfl) ?_
          refine lv_bipush (v := 17) hx hb dX2_decode_96 (by decide) ?_
          refine lv_icmp_ne (tgt := 119) hx hb dX2_decode_98 (by decide) (fun c_30 => ?_) (fun c_30 => ?_)
          · refine lv_iload_n hx hb dX2_decode_119 rfl (lv_at hl 0 rfl) ?_
            refine lv_bipush (v := 18) hx hb dX2_decode_120 (by decide) ?_
            refine lv_icmp_ne (tgt := 142) hx hb dX2_decode_122 (by decide) (fun c_31 => ?_) (fun c_31 => ?_)
            · refine lv_iload_n hx hb dX2_decode_142 rfl (lv_at hl 0 rfl) ?_
              refine lv_sipush (v := 200) hx hb dX2_decode_143 (by decide) ?_
              refine lv_icmp_ne (tgt := 170) hx hb dX2_decode_146 (by decide) (fun c_32 => ?_) (fun c_32 => ?_)
              · refine lv_iload_n hx hb dX2_decode_170 rfl (lv_at hl 0 rfl) ?_
                have hFc := gfree hD hS hA
                refine va_calli (va_runS (As := [.int r_2]) (rest := []) ⟨hx, hb, hml, hown, hts⟩ (m_X6_isJump_y l g H.size ws_14 (r_2) hG ) (va_cwS 1 hts (gd_S kw_629 kw_1225 kw_1207 kw_1224) rfl rfl rfl (by decide +kernel) ⟨Nat.le_of_ble_eq_true rfl, Nat.le_of_ble_eq_true rfl⟩) ⟨gblind, fun U hU hW9 => gmk hU hW9 hP hK hD hex hE hS hFc⟩ rfl rfl hl.1 rfl (lv_room (Nat.le_of_ble_eq_true rfl)) dX2_decode_171 ⟨Nat.le_of_ble_eq_true rfl, Nat.le_of_ble_eq_true rfl⟩) hS (fun q _ h => hFc q h) hFc (fun r_33 u9 t9 H1 locs ht9 hvm9 hw9 hB9 hz9 hk9 hS => ?_)
                have hP : va_P (gD g) cl0 ws_14 H1 := by rw [← ht9]; exact hB9.1
                obtain ⟨hw9, xp_34⟩ := hw9
                have hz_r_33 : r_33 = 0 ∨ r_33 = 1 := hw9
                clear hB9 hz9 hk9 hvm9 ht9 hw9
                generalize H1 = H at hP hS ⊢
                refine lv_if_eq (tgt := 196) hx hb dX2_decode_174 (by decide) (fun c_35 => ?_) (fun c_35 => ?_)
                · refine lv_iload_n hx hb dX2_decode_196 rfl (lv_at hl 0 rfl) ?_
                  have hFc := gfree hD hS hA
                  refine va_calli (va_runS (As := [.int r_2]) (rest := []) ⟨hx, hb, hml, hown, hts⟩ (m_X6_isSwitch_y l g H.size ws_14 (r_2) hG ) (va_cwS 1 hts (gd_S kw_630 kw_1233 kw_1207 kw_1232) rfl rfl rfl (by decide +kernel) ⟨Nat.le_of_ble_eq_true rfl, Nat.le_of_ble_eq_true rfl⟩) ⟨gblind, fun U hU hW9 => gmk hU hW9 hP hK hD hex hE hS hFc⟩ rfl rfl hl.1 rfl (lv_room (Nat.le_of_ble_eq_true rfl)) dX2_decode_197 ⟨Nat.le_of_ble_eq_true rfl, Nat.le_of_ble_eq_true rfl⟩) hS (fun q _ h => hFc q h) hFc (fun r_36 u9 t9 H1 locs ht9 hvm9 hw9 hB9 hz9 hk9 hS => ?_)
                  have hP : va_P (gD g) cl0 ws_14 H1 := by rw [← ht9]; exact hB9.1
                  obtain ⟨hw9, xp_37⟩ := hw9
                  have hz_r_36 : r_36 = 0 ∨ r_36 = 1 := hw9
                  clear hB9 hz9 hk9 hvm9 ht9 hw9
                  generalize H1 = H at hP hS ⊢
                  refine lv_if_eq (tgt := 216) hx hb dX2_decode_200 (by decide) (fun c_38 => ?_) (fun c_38 => ?_)
                  · refine lv_iload_n hx hb dX2_decode_216 rfl (lv_at hl 0 rfl) ?_
                    have hFc := gfree hD hS hA
                    refine va_calli (va_runS (As := [.int r_2]) (rest := []) ⟨hx, hb, hml, hown, hts⟩ (m_X6_lengthOf_x l g H.size ws_14 (r_2) hG ) (va_cwS 1 hts (gd_S kw_687 kw_1244 kw_1207 kw_1243) rfl rfl rfl (by decide +kernel) ⟨Nat.le_of_ble_eq_true rfl, Nat.le_of_ble_eq_true rfl⟩) ⟨gblind, fun U hU hW9 => gmk hU hW9 hP hK hD hex hE hS hFc⟩ rfl rfl hl.1 rfl (lv_room (Nat.le_of_ble_eq_true rfl)) dX2_decode_217 ⟨Nat.le_of_ble_eq_true rfl, Nat.le_of_ble_eq_true rfl⟩) hS (fun q _ h => hFc q h) hFc (fun r_39 u9 t9 H1 locs ht9 hvm9 hw9 hB9 hz9 hk9 hS => ?_)
                    have hP : va_P (gD g) cl0 ws_14 H1 := by rw [← ht9]; exact hB9.1
                    obtain ⟨hw9, xp_40⟩ := hw9
                    have h_r_39 := hw9
                    clear hB9 hz9 hk9 hvm9 ht9 hw9
                    generalize H1 = H at hP hS ⊢
                    refine lv_iconst (v := 3) hx hb dX2_decode_220 (by decide) ?_
                    refine lv_icmp_ne (tgt := 247) hx hb dX2_decode_221 (by decide) (fun c_41 => ?_) (fun c_41 => ?_)
                    · refine lv_aload_n hx hb dX2_decode_247 rfl (lv_at hl 1 rfl) ?_
                      refine lv_iload_n hx hb dX2_decode_248 rfl (lv_at hl 2 rfl) ?_
                      have hkS := hk_4
                      have hDS := hD
                      have hFc := gfree hD hS hA
                      refine va_callv (va_runV (As := [.int x1]) (rest := []) ⟨hx, hb, hml, hown, hts⟩ (m_X2_decodeLocal_y l g H.size ws_14 h0 (x1) hG o_h0) (cwV 1 hts (gd_V kw_688 kw_690 kw_691 kw_389 kw_689) rfl rfl rfl (by decide +kernel) ⟨Nat.le_of_ble_eq_true rfl, Nat.le_of_ble_eq_true rfl⟩) ⟨gblind, va_recv hK hP (ci := 2) (q0 := k_4) rfl hk_4, fun U hU hW9 => gmk hU hW9 hP hK hD hex hE hS hFc⟩ rfl rfl hl.1 rfl (lv_room (Nat.le_of_ble_eq_true rfl)) dX2_decode_249 ⟨Nat.le_of_ble_eq_true rfl, Nat.le_of_ble_eq_true rfl⟩) hS (fun q _ h => hFc q h) hFc (fun  ws_42 t9 H1 locs ht9 hvm9 hw9 hB9 hz9 hk9 hS => ?_)
                      obtain ⟨E_43, Fr_44, hG, hP1, hD1⟩ := hB9
                      have hP : va_P (gD g) cl0 ws_42 H1 := by rw [← ht9]; exact hP1
                      have hD : va_D A ws_42 := hD1.weaken (fun _ _ _ h => hFc _ h)
                      obtain ⟨hw9, xp_47⟩ := hw9
                      clear hP1 hD1 hz9 hk9 hvm9 ht9 hw9
                      generalize H1 = H at hP hS ⊢
                      have aa_48 := a_r7_4
                      have o_h0 := E_43.1 _ _ o_h0
                      refine W.widen (k := 0) (n := 0) (Nat.le_of_ble_eq_true rfl) (Nat.le_of_ble_eq_true rfl) ?_
                      exact W.vret hx hb hr (fun t9 ht9 hW9 => ⟨⟨ws_42, rfl, ⟨trivial, ⟨dc_l hDS hkS rfl rfl xp_3 (fun h9 => absurd (xp_37.mpr h9) (by have e0 : (0 : Int32).toInt = 0 := (by decide); have q_c_38 := i_eq c_38; have g_r_36 := i_rg r_36; have b_r_36 := i_bit hz_r_36; omega)) (fun _ _ _ _ _ q9 => vx_mo ((gF.tr (gF.mo (F' := [(2, 9), (2, 10), (2, 11)]) (C' := []) (S' := none) Fr_8 (by decide) (fun _ h => h) (Or.inl rfl)) (gF.tr (gF.mo (F' := [(2, 9), (2, 10), (2, 11)]) (C' := []) (S' := none) Fr_12 (by decide) (fun _ h => h) (Or.inl rfl)) (gF.mo (F' := [(2, 9), (2, 10), (2, 11)]) (C' := []) (S' := none) Fr_16 (by decide) (fun _ h => h) (Or.inl rfl))))) (by decide) (by decide) (by decide) (by decide) (by decide) (by decide) q9) xp_47, (fun f9 e9 n9 c9 s9 q9 hs => absurd (xp_37.mpr (by rw [xp_3 _ _ _ _ _ q9]; exact hs)) (by have e0 : (0 : Int32).toInt = 0 := (by decide); have q_c_38 := i_eq c_38; have g_r_36 := i_rg r_36; have b_r_36 := i_bit hz_r_36; omega))⟩⟩, ⟨(E_7.tr (E_11.tr (E_15.tr E_43))), (gF.tr (gF.mo (F' := [(2, 9), (2, 10), (2, 11)]) (C' := []) (S' := none) Fr_8 (by decide) (fun _ h => h) (Or.inl rfl)) (gF.tr (gF.mo (F' := [(2, 9), (2, 10), (2, 11)]) (C' := []) (S' := none) Fr_12 (by decide) (fun _ h => h) (Or.inl rfl)) (gF.tr (gF.mo (F' := [(2, 9), (2, 10), (2, 11)]) (C' := []) (S' := none) Fr_16 (by decide) (fun _ h => h) (Or.inl rfl)) (gF.mo (F' := [(2, 9), (2, 10), (2, 11)]) (C' := []) (S' := none) Fr_44 (by decide) (fun _ h => h) (Or.inr rfl))))), hG, by rw [ht9]; exact hP, hD⟩⟩, hS.F ht9⟩) hS.2.2 dX2_decode_252
                    · refine lv_iload_n hx hb dX2_decode_224 rfl (lv_at hl 0 rfl) ?_
                      refine lv_sipush (v := 132) hx hb dX2_decode_225 (by decide) ?_
                      refine lv_icmp_eq (tgt := 247) hx hb dX2_decode_228 (by decide) (fun c_49 => ?_) (fun c_49 => ?_)
                      · refine lv_aload_n hx hb dX2_decode_247 rfl (lv_at hl 1 rfl) ?_
                        refine lv_iload_n hx hb dX2_decode_248 rfl (lv_at hl 2 rfl) ?_
                        have hkS := hk_4
                        have hDS := hD
                        have hFc := gfree hD hS hA
                        refine va_callv (va_runV (As := [.int x1]) (rest := []) ⟨hx, hb, hml, hown, hts⟩ (m_X2_decodeLocal_y l g H.size ws_14 h0 (x1) hG o_h0) (cwV 1 hts (gd_V kw_688 kw_690 kw_691 kw_389 kw_689) rfl rfl rfl (by decide +kernel) ⟨Nat.le_of_ble_eq_true rfl, Nat.le_of_ble_eq_true rfl⟩) ⟨gblind, va_recv hK hP (ci := 2) (q0 := k_4) rfl hk_4, fun U hU hW9 => gmk hU hW9 hP hK hD hex hE hS hFc⟩ rfl rfl hl.1 rfl (lv_room (Nat.le_of_ble_eq_true rfl)) dX2_decode_249 ⟨Nat.le_of_ble_eq_true rfl, Nat.le_of_ble_eq_true rfl⟩) hS (fun q _ h => hFc q h) hFc (fun  ws_50 t9 H1 locs ht9 hvm9 hw9 hB9 hz9 hk9 hS => ?_)
                        obtain ⟨E_51, Fr_52, hG, hP1, hD1⟩ := hB9
                        have hP : va_P (gD g) cl0 ws_50 H1 := by rw [← ht9]; exact hP1
                        have hD : va_D A ws_50 := hD1.weaken (fun _ _ _ h => hFc _ h)
                        obtain ⟨hw9, xp_55⟩ := hw9
                        clear hP1 hD1 hz9 hk9 hvm9 ht9 hw9
                        generalize H1 = H at hP hS ⊢
                        have aa_56 := a_r7_4
                        have o_h0 := E_51.1 _ _ o_h0
                        refine W.widen (k := 0) (n := 0) (Nat.le_of_ble_eq_true rfl) (Nat.le_of_ble_eq_true rfl) ?_
                        exact W.vret hx hb hr (fun t9 ht9 hW9 => ⟨⟨ws_50, rfl, ⟨trivial, ⟨dc_l hDS hkS rfl rfl xp_3 (fun h9 => absurd (xp_37.mpr h9) (by have e0 : (0 : Int32).toInt = 0 := (by decide); have q_c_38 := i_eq c_38; have g_r_36 := i_rg r_36; have b_r_36 := i_bit hz_r_36; omega)) (fun _ _ _ _ _ q9 => vx_mo ((gF.tr (gF.mo (F' := [(2, 9), (2, 10), (2, 11)]) (C' := []) (S' := none) Fr_8 (by decide) (fun _ h => h) (Or.inl rfl)) (gF.tr (gF.mo (F' := [(2, 9), (2, 10), (2, 11)]) (C' := []) (S' := none) Fr_12 (by decide) (fun _ h => h) (Or.inl rfl)) (gF.mo (F' := [(2, 9), (2, 10), (2, 11)]) (C' := []) (S' := none) Fr_16 (by decide) (fun _ h => h) (Or.inl rfl))))) (by decide) (by decide) (by decide) (by decide) (by decide) (by decide) q9) xp_55, (fun f9 e9 n9 c9 s9 q9 hs => absurd (xp_37.mpr (by rw [xp_3 _ _ _ _ _ q9]; exact hs)) (by have e0 : (0 : Int32).toInt = 0 := (by decide); have q_c_38 := i_eq c_38; have g_r_36 := i_rg r_36; have b_r_36 := i_bit hz_r_36; omega))⟩⟩, ⟨(E_7.tr (E_11.tr (E_15.tr E_51))), (gF.tr (gF.mo (F' := [(2, 9), (2, 10), (2, 11)]) (C' := []) (S' := none) Fr_8 (by decide) (fun _ h => h) (Or.inl rfl)) (gF.tr (gF.mo (F' := [(2, 9), (2, 10), (2, 11)]) (C' := []) (S' := none) Fr_12 (by decide) (fun _ h => h) (Or.inl rfl)) (gF.tr (gF.mo (F' := [(2, 9), (2, 10), (2, 11)]) (C' := []) (S' := none) Fr_16 (by decide) (fun _ h => h) (Or.inl rfl)) (gF.mo (F' := [(2, 9), (2, 10), (2, 11)]) (C' := []) (S' := none) Fr_52 (by decide) (fun _ h => h) (Or.inr rfl))))), hG, by rw [ht9]; exact hP, hD⟩⟩, hS.F ht9⟩) hS.2.2 dX2_decode_252
                      · refine lv_aload_n hx hb dX2_decode_231 rfl (lv_at hl 1 rfl) ?_
                        refine lv_iload_n hx hb dX2_decode_232 rfl (lv_at hl 0 rfl) ?_
                        refine lv_aload_n hx hb dX2_decode_233 rfl (lv_at hl 1 rfl) ?_
                        refine lv_iload_n hx hb dX2_decode_234 rfl (lv_at hl 2 rfl) ?_
                        refine lv_iconst (v := 1) hx hb dX2_decode_235 (by decide) ?_
                        refine lv_iadd hx hb dX2_decode_236 ?_
                        refine lv_topi (fun z_57 ez_57 => ?_)
                        have hFc := gfree hD hS hA
                        refine va_calli (va_runV (As := [.int z_57]) (rest := [.int r_2, .ref h0]) ⟨hx, hb, hml, hown, hts⟩ (m_X2_u2 l g H.size ws_14 h0 (z_57) hG o_h0) (cwV 1 hts (gd_V kw_685 kw_816 kw_817 kw_389 kw_815) rfl rfl rfl (by decide +kernel) ⟨Nat.le_of_ble_eq_true rfl, Nat.le_of_ble_eq_true rfl⟩) ⟨gblind, va_recv hK hP (ci := 2) (q0 := k_4) rfl hk_4, fun U hU hW9 => gmk hU hW9 hP hK hD hex hE hS hFc⟩ rfl rfl hl.1 rfl (lv_room (Nat.le_of_ble_eq_true rfl)) dX2_decode_237 ⟨Nat.le_of_ble_eq_true rfl, Nat.le_of_ble_eq_true rfl⟩) hS (fun q _ h => hFc q h) hFc (fun r_58 u9 t9 H1 locs ht9 hvm9 hw9 hB9 hz9 hk9 hS => ?_)
                        have hP : va_P (gD g) cl0 ws_14 H1 := by rw [← ht9]; exact hB9.1
                        clear hB9 hz9 hk9 hvm9 ht9 hw9
                        generalize H1 = H at hP hS ⊢
                        obtain ⟨z_59, ez_59⟩ : ∃ y : Int64, (r_58 : Int32).toInt64 = y := ⟨_, rfl⟩
                        refine lv_i2l (v := z_59) hx hb dX2_decode_240 ez_59 ?_
                        have hFc := gfree hD hS hA
                        refine va_callv (va_runV (As := [.int r_2, .long z_59]) (rest := []) ⟨hx, hb, hml, hown, hts⟩ (m_X2_set_y l g H.size ws_14 h0 (r_2) (z_59) hG o_h0) (cwV 2 hts (gd_V kw_684 kw_793 kw_794 kw_389 kw_792) rfl rfl rfl (by decide +kernel) ⟨Nat.le_of_ble_eq_true rfl, Nat.le_of_ble_eq_true rfl⟩) ⟨gblind, va_recv hK hP (ci := 2) (q0 := k_4) rfl hk_4, fun U hU hW9 => gmk hU hW9 hP hK hD hex hE hS hFc⟩ rfl rfl hl.1 rfl (lv_room (Nat.le_of_ble_eq_true rfl)) dX2_decode_241 ⟨Nat.le_of_ble_eq_true rfl, Nat.le_of_ble_eq_true rfl⟩) hS (fun q _ h => hFc q h) hFc (fun  ws_60 t9 H1 locs ht9 hvm9 hw9 hB9 hz9 hk9 hS => ?_)
                        obtain ⟨E_61, Fr_62, hG, hP1, hD1⟩ := hB9
                        have hP : va_P (gD g) cl0 ws_60 H1 := by rw [← ht9]; exact hP1
                        have hD : va_D A ws_60 := hD1.weaken (fun _ _ _ h => hFc _ h)
                        obtain ⟨hw9, xp_65⟩ := hw9
                        clear hP1 hD1 hz9 hk9 hvm9 ht9 hw9
                        generalize H1 = H at hP hS ⊢
                        have aa_66 := a_r7_4
                        have o_h0 := E_61.1 _ _ o_h0
                        refine lv_goto (tgt := 252) hx hb dX2_decode_244 (by decide) ?_
                        refine W.widen (k := 0) (n := 0) (Nat.le_of_ble_eq_true rfl) (Nat.le_of_ble_eq_true rfl) ?_
                        exact W.vret hx hb hr (fun t9 ht9 hW9 => ⟨⟨ws_60, rfl, ⟨trivial, ⟨⟨_, _, xp_65, fun h9 => absurd (xp_37.mpr h9) (by have e0 : (0 : Int32).toInt = 0 := (by decide); have q_c_38 := i_eq c_38; have g_r_36 := i_rg r_36; have b_r_36 := i_bit hz_r_36; omega)⟩, (fun f9 e9 n9 c9 s9 q9 hs => absurd (xp_37.mpr (by rw [xp_3 _ _ _ _ _ q9]; exact hs)) (by have e0 : (0 : Int32).toInt = 0 := (by decide); have q_c_38 := i_eq c_38; have g_r_36 := i_rg r_36; have b_r_36 := i_bit hz_r_36; omega))⟩⟩, ⟨(E_7.tr (E_11.tr (E_15.tr E_61))), (gF.tr (gF.mo (F' := [(2, 9), (2, 10), (2, 11)]) (C' := []) (S' := none) Fr_8 (by decide) (fun _ h => h) (Or.inl rfl)) (gF.tr (gF.mo (F' := [(2, 9), (2, 10), (2, 11)]) (C' := []) (S' := none) Fr_12 (by decide) (fun _ h => h) (Or.inl rfl)) (gF.tr (gF.mo (F' := [(2, 9), (2, 10), (2, 11)]) (C' := []) (S' := none) Fr_16 (by decide) (fun _ h => h) (Or.inl rfl)) (gF.mo (F' := [(2, 9), (2, 10), (2, 11)]) (C' := []) (S' := none) Fr_62 (by decide) (fun _ h => h) (Or.inr rfl))))), hG, by rw [ht9]; exact hP, hD⟩⟩, hS.F ht9⟩) hS.2.2 dX2_decode_252
                  · refine lv_aload_n hx hb dX2_decode_203 rfl (lv_at hl 1 rfl) ?_
                    refine lv_iload_n hx hb dX2_decode_204 rfl (lv_at hl 0 rfl) ?_
                    refine lv_iload_n hx hb dX2_decode_205 rfl (lv_at hl 2 rfl) ?_
                    have hFc := gfree hD hS hA
                    refine va_calli (va_runS (As := [.int x1]) (rest := [.int r_2, .ref h0]) ⟨hx, hb, hml, hown, hts⟩ (m_X2_numbersOf_x l g H.size ws_14 (x1) hG ) (va_cwS 1 hts (gd_S kw_686 kw_764 kw_389 kw_763) rfl rfl rfl (by decide +kernel) ⟨Nat.le_of_ble_eq_true rfl, Nat.le_of_ble_eq_true rfl⟩) ⟨gblind, fun U hU hW9 => gmk hU hW9 hP hK hD hex hE hS hFc⟩ rfl rfl hl.1 rfl (lv_room (Nat.le_of_ble_eq_true rfl)) dX2_decode_206 ⟨Nat.le_of_ble_eq_true rfl, Nat.le_of_ble_eq_true rfl⟩) hS (fun q _ h => hFc q h) hFc (fun r_67 u9 t9 H1 locs ht9 hvm9 hw9 hB9 hz9 hk9 hS => ?_)
                    have hP : va_P (gD g) cl0 ws_14 H1 := by rw [← ht9]; exact hB9.1
                    obtain ⟨hw9, xp_68⟩ := hw9
                    have h_r_67 := hw9
                    clear hB9 hz9 hk9 hvm9 ht9 hw9
                    generalize H1 = H at hP hS ⊢
                    obtain ⟨z_69, ez_69⟩ : ∃ y : Int64, (r_67 : Int32).toInt64 = y := ⟨_, rfl⟩
                    refine lv_i2l (v := z_69) hx hb dX2_decode_209 ez_69 ?_
                    have hFc := gfree hD hS hA
                    refine va_callv (va_runV (As := [.int r_2, .long z_69]) (rest := []) ⟨hx, hb, hml, hown, hts⟩ (m_X2_set_y l g H.size ws_14 h0 (r_2) (z_69) hG o_h0) (cwV 2 hts (gd_V kw_684 kw_793 kw_794 kw_389 kw_792) rfl rfl rfl (by decide +kernel) ⟨Nat.le_of_ble_eq_true rfl, Nat.le_of_ble_eq_true rfl⟩) ⟨gblind, va_recv hK hP (ci := 2) (q0 := k_4) rfl hk_4, fun U hU hW9 => gmk hU hW9 hP hK hD hex hE hS hFc⟩ rfl rfl hl.1 rfl (lv_room (Nat.le_of_ble_eq_true rfl)) dX2_decode_210 ⟨Nat.le_of_ble_eq_true rfl, Nat.le_of_ble_eq_true rfl⟩) hS (fun q _ h => hFc q h) hFc (fun  ws_70 t9 H1 locs ht9 hvm9 hw9 hB9 hz9 hk9 hS => ?_)
                    obtain ⟨E_71, Fr_72, hG, hP1, hD1⟩ := hB9
                    have hP : va_P (gD g) cl0 ws_70 H1 := by rw [← ht9]; exact hP1
                    have hD : va_D A ws_70 := hD1.weaken (fun _ _ _ h => hFc _ h)
                    obtain ⟨hw9, xp_75⟩ := hw9
                    clear hP1 hD1 hz9 hk9 hvm9 ht9 hw9
                    generalize H1 = H at hP hS ⊢
                    have aa_76 := a_r7_4
                    have o_h0 := E_71.1 _ _ o_h0
                    refine lv_goto (tgt := 252) hx hb dX2_decode_213 (by decide) ?_
                    refine W.widen (k := 0) (n := 0) (Nat.le_of_ble_eq_true rfl) (Nat.le_of_ble_eq_true rfl) ?_
                    exact W.vret hx hb hr (fun t9 ht9 hW9 => ⟨⟨ws_70, rfl, ⟨trivial, ⟨⟨_, _, xp_75, fun _ f9 e9 n9 c9 s9 q9 => Or.inl ⟨xp_3 _ _ _ _ _ q9, (by rw [← ez_69, xp_68])⟩⟩, (fun f9 e9 n9 c9 s9 q9 hs => (by rw [← xp_3 _ _ _ _ _ q9]; have ea9 : z_69 = (kNum x1).toInt64 := (by rw [← ez_69, xp_68]); rw [← ea9]; exact xp_75))⟩⟩, ⟨(E_7.tr (E_11.tr (E_15.tr E_71))), (gF.tr (gF.mo (F' := [(2, 9), (2, 10), (2, 11)]) (C' := []) (S' := none) Fr_8 (by decide) (fun _ h => h) (Or.inl rfl)) (gF.tr (gF.mo (F' := [(2, 9), (2, 10), (2, 11)]) (C' := []) (S' := none) Fr_12 (by decide) (fun _ h => h) (Or.inl rfl)) (gF.tr (gF.mo (F' := [(2, 9), (2, 10), (2, 11)]) (C' := []) (S' := none) Fr_16 (by decide) (fun _ h => h) (Or.inl rfl)) (gF.mo (F' := [(2, 9), (2, 10), (2, 11)]) (C' := []) (S' := none) Fr_72 (by decide) (fun _ h => h) (Or.inr rfl))))), hG, by rw [ht9]; exact hP, hD⟩⟩, hS.F ht9⟩) hS.2.2 dX2_decode_252
                · refine lv_aload_n hx hb dX2_decode_177 rfl (lv_at hl 1 rfl) ?_
                  refine lv_iload_n hx hb dX2_decode_178 rfl (lv_at hl 0 rfl) ?_
                  refine lv_iload_n hx hb dX2_decode_179 rfl (lv_at hl 2 rfl) ?_
                  refine lv_aload_n hx hb dX2_decode_180 rfl (lv_at hl 1 rfl) ?_
                  refine lv_iload_n hx hb dX2_decode_181 rfl (lv_at hl 2 rfl) ?_
                  refine lv_iconst (v := 1) hx hb dX2_decode_182 (by decide) ?_
                  refine lv_iadd hx hb dX2_decode_183 ?_
                  refine lv_topi (fun z_77 ez_77 => ?_)
                  have hFc := gfree hD hS hA
                  refine va_calli (va_runV (As := [.int z_77]) (rest := [.int x1, .int r_2, .ref h0]) ⟨hx, hb, hml, hown, hts⟩ (m_X2_u2 l g H.size ws_14 h0 (z_77) hG o_h0) (cwV 1 hts (gd_V kw_685 kw_816 kw_817 kw_389 kw_815) rfl rfl rfl (by decide +kernel) ⟨Nat.le_of_ble_eq_true rfl, Nat.le_of_ble_eq_true rfl⟩) ⟨gblind, va_recv hK hP (ci := 2) (q0 := k_4) rfl hk_4, fun U hU hW9 => gmk hU hW9 hP hK hD hex hE hS hFc⟩ rfl rfl hl.1 rfl (lv_room (Nat.le_of_ble_eq_true rfl)) dX2_decode_184 ⟨Nat.le_of_ble_eq_true rfl, Nat.le_of_ble_eq_true rfl⟩) hS (fun q _ h => hFc q h) hFc (fun r_78 u9 t9 H1 locs ht9 hvm9 hw9 hB9 hz9 hk9 hS => ?_)
                  have hP : va_P (gD g) cl0 ws_14 H1 := by rw [← ht9]; exact hB9.1
                  clear hB9 hz9 hk9 hvm9 ht9 hw9
                  generalize H1 = H at hP hS ⊢
                  obtain ⟨z_79, ez_79⟩ : ∃ y : Int32, (r_78 : Int32).toInt16.toInt32 = y := ⟨_, rfl⟩
                  refine lv_i2s (v := z_79) hx hb dX2_decode_187 ez_79 ?_
                  refine lv_iadd hx hb dX2_decode_188 ?_
                  refine lv_topi (fun z_80 ez_80 => ?_)
                  obtain ⟨z_81, ez_81⟩ : ∃ y : Int64, (z_80 : Int32).toInt64 = y := ⟨_, rfl⟩
                  refine lv_i2l (v := z_81) hx hb dX2_decode_189 ez_81 ?_
                  have hFc := gfree hD hS hA
                  refine va_callv (va_runV (As := [.int r_2, .long z_81]) (rest := []) ⟨hx, hb, hml, hown, hts⟩ (m_X2_set_y l g H.size ws_14 h0 (r_2) (z_81) hG o_h0) (cwV 2 hts (gd_V kw_684 kw_793 kw_794 kw_389 kw_792) rfl rfl rfl (by decide +kernel) ⟨Nat.le_of_ble_eq_true rfl, Nat.le_of_ble_eq_true rfl⟩) ⟨gblind, va_recv hK hP (ci := 2) (q0 := k_4) rfl hk_4, fun U hU hW9 => gmk hU hW9 hP hK hD hex hE hS hFc⟩ rfl rfl hl.1 rfl (lv_room (Nat.le_of_ble_eq_true rfl)) dX2_decode_190 ⟨Nat.le_of_ble_eq_true rfl, Nat.le_of_ble_eq_true rfl⟩) hS (fun q _ h => hFc q h) hFc (fun  ws_82 t9 H1 locs ht9 hvm9 hw9 hB9 hz9 hk9 hS => ?_)
                  obtain ⟨E_83, Fr_84, hG, hP1, hD1⟩ := hB9
                  have hP : va_P (gD g) cl0 ws_82 H1 := by rw [← ht9]; exact hP1
                  have hD : va_D A ws_82 := hD1.weaken (fun _ _ _ h => hFc _ h)
                  obtain ⟨hw9, xp_87⟩ := hw9
                  clear hP1 hD1 hz9 hk9 hvm9 ht9 hw9
                  generalize H1 = H at hP hS ⊢
                  have aa_88 := a_r7_4
                  have o_h0 := E_83.1 _ _ o_h0
                  refine lv_goto (tgt := 252) hx hb dX2_decode_193 (by decide) ?_
                  refine W.widen (k := 0) (n := 0) (Nat.le_of_ble_eq_true rfl) (Nat.le_of_ble_eq_true rfl) ?_
                  exact W.vret hx hb hr (fun t9 ht9 hW9 => ⟨⟨ws_82, rfl, ⟨trivial, ⟨⟨_, _, xp_87, fun h9 => absurd h9 (xp_34 (by have e0 : (0 : Int32).toInt = 0 := (by decide); have q_c_35 := i_ne c_35; have g_r_33 := i_rg r_33; have b_r_33 := i_bit hz_r_33; omega))⟩, (fun f9 e9 n9 c9 s9 q9 hs => absurd (show isS r_2 from (by rw [xp_3 _ _ _ _ _ q9]; exact hs)) (xp_34 (by have e0 : (0 : Int32).toInt = 0 := (by decide); have q_c_35 := i_ne c_35; have g_r_33 := i_rg r_33; have b_r_33 := i_bit hz_r_33; omega)))⟩⟩, ⟨(E_7.tr (E_11.tr (E_15.tr E_83))), (gF.tr (gF.mo (F' := [(2, 9), (2, 10), (2, 11)]) (C' := []) (S' := none) Fr_8 (by decide) (fun _ h => h) (Or.inl rfl)) (gF.tr (gF.mo (F' := [(2, 9), (2, 10), (2, 11)]) (C' := []) (S' := none) Fr_12 (by decide) (fun _ h => h) (Or.inl rfl)) (gF.tr (gF.mo (F' := [(2, 9), (2, 10), (2, 11)]) (C' := []) (S' := none) Fr_16 (by decide) (fun _ h => h) (Or.inl rfl)) (gF.mo (F' := [(2, 9), (2, 10), (2, 11)]) (C' := []) (S' := none) Fr_84 (by decide) (fun _ h => h) (Or.inr rfl))))), hG, by rw [ht9]; exact hP, hD⟩⟩, hS.F ht9⟩) hS.2.2 dX2_decode_252
              · refine lv_aload_n hx hb dX2_decode_149 rfl (lv_at hl 1 rfl) ?_
                refine lv_sipush (v := 167) hx hb dX2_decode_150 (by decide) ?_
                refine lv_iload_n hx hb dX2_decode_153 rfl (lv_at hl 2 rfl) ?_
                obtain ⟨z_89, ez_89⟩ : ∃ y : Int64, (x1 : Int32).toInt64 = y := ⟨_, rfl⟩
                refine lv_i2l (v := z_89) hx hb dX2_decode_154 ez_89 ?_
                refine lv_aload_n hx hb dX2_decode_155 rfl (lv_at hl 1 rfl) ?_
                refine lv_iload_n hx hb dX2_decode_156 rfl (lv_at hl 2 rfl) ?_
                refine lv_iconst (v := 1) hx hb dX2_decode_157 (by decide) ?_
                refine lv_iadd hx hb dX2_decode_158 ?_
                refine lv_topi (fun z_90 ez_90 => ?_)
                have hFc := gfree hD hS hA
                refine va_calli (va_runV (As := [.int z_90]) (rest := [.long z_89, .int 167, .ref h0]) ⟨hx, hb, hml, hown, hts⟩ (m_X2_s4_x l g H.size ws_14 h0 (z_90) hG o_h0) (cwV 1 hts (gd_V kw_623 kw_790 kw_791 kw_389 kw_789) rfl rfl rfl (by decide +kernel) ⟨Nat.le_of_ble_eq_true rfl, Nat.le_of_ble_eq_true rfl⟩) ⟨gblind, va_recv hK hP (ci := 2) (q0 := k_4) rfl hk_4, fun U hU hW9 => gmk hU hW9 hP hK hD hex hE hS hFc⟩ rfl rfl hl.1 rfl (lv_room (Nat.le_of_ble_eq_true rfl)) dX2_decode_159 ⟨Nat.le_of_ble_eq_true rfl, Nat.le_of_ble_eq_true rfl⟩) hS (fun q _ h => hFc q h) hFc (fun r_91 u9 t9 H1 locs ht9 hvm9 hw9 hB9 hz9 hk9 hS => ?_)
                have hP : va_P (gD g) cl0 ws_14 H1 := by rw [← ht9]; exact hB9.1
                obtain ⟨hw9, xp_92⟩ := hw9
                clear hB9 hz9 hk9 hvm9 ht9 hw9
                generalize H1 = H at hP hS ⊢
                obtain ⟨z_93, ez_93⟩ : ∃ y : Int64, (r_91 : Int32).toInt64 = y := ⟨_, rfl⟩
                refine lv_i2l (v := z_93) hx hb dX2_decode_162 ez_93 ?_
                refine lv_ladd hx hb dX2_decode_163 ?_
                refine lv_topl (fun z_94 ez_94 => ?_)
                have hFc := gfree hD hS hA
                refine va_callv (va_runV (As := [.int 167, .long z_94]) (rest := []) ⟨hx, hb, hml, hown, hts⟩ (m_X2_set_y l g H.size ws_14 h0 (167) (z_94) hG o_h0) (cwV 2 hts (gd_V kw_684 kw_793 kw_794 kw_389 kw_792) rfl rfl rfl (by decide +kernel) ⟨Nat.le_of_ble_eq_true rfl, Nat.le_of_ble_eq_true rfl⟩) ⟨gblind, va_recv hK hP (ci := 2) (q0 := k_4) rfl hk_4, fun U hU hW9 => gmk hU hW9 hP hK hD hex hE hS hFc⟩ rfl rfl hl.1 rfl (lv_room (Nat.le_of_ble_eq_true rfl)) dX2_decode_164 ⟨Nat.le_of_ble_eq_true rfl, Nat.le_of_ble_eq_true rfl⟩) hS (fun q _ h => hFc q h) hFc (fun  ws_95 t9 H1 locs ht9 hvm9 hw9 hB9 hz9 hk9 hS => ?_)
                obtain ⟨E_96, Fr_97, hG, hP1, hD1⟩ := hB9
                have hP : va_P (gD g) cl0 ws_95 H1 := by rw [← ht9]; exact hP1
                have hD : va_D A ws_95 := hD1.weaken (fun _ _ _ h => hFc _ h)
                obtain ⟨hw9, xp_100⟩ := hw9
                clear hP1 hD1 hz9 hk9 hvm9 ht9 hw9
                generalize H1 = H at hP hS ⊢
                have aa_101 := a_r7_4
                have o_h0 := E_96.1 _ _ o_h0
                refine lv_goto (tgt := 252) hx hb dX2_decode_167 (by decide) ?_
                refine W.widen (k := 0) (n := 0) (Nat.le_of_ble_eq_true rfl) (Nat.le_of_ble_eq_true rfl) ?_
                exact W.vret hx hb hr (fun t9 ht9 hW9 => ⟨⟨ws_95, rfl, ⟨trivial, ⟨⟨_, _, xp_100, fun h9 => absurd h9 (by unfold isS; decide)⟩, (fun f9 e9 n9 c9 s9 q9 hs => absurd (show isS r_2 from (by rw [xp_3 _ _ _ _ _ q9]; exact hs)) (by unfold isS; exact (by have e2 : (2 : Int32).toInt = 2 := (by decide); have e9 : (9 : Int32).toInt = 9 := (by decide); have e10 : (10 : Int32).toInt = 10 := (by decide); have e16 : (16 : Int32).toInt = 16 := (by decide); have e17 : (17 : Int32).toInt = 17 := (by decide); have e18 : (18 : Int32).toInt = 18 := (by decide); have e200 : (200 : Int32).toInt = 200 := (by decide); have q_c_17 := i_lt c_17; have q_c_18 := i_ne c_18; have q_c_28 := i_ne c_28; have q_c_29 := i_ne c_29; have q_c_30 := i_ne c_30; have q_c_31 := i_ne c_31; have q_c_32 := i_eq c_32; have g_r_2 := i_rg r_2; omega)))⟩⟩, ⟨(E_7.tr (E_11.tr (E_15.tr E_96))), (gF.tr (gF.mo (F' := [(2, 9), (2, 10), (2, 11)]) (C' := []) (S' := none) Fr_8 (by decide) (fun _ h => h) (Or.inl rfl)) (gF.tr (gF.mo (F' := [(2, 9), (2, 10), (2, 11)]) (C' := []) (S' := none) Fr_12 (by decide) (fun _ h => h) (Or.inl rfl)) (gF.tr (gF.mo (F' := [(2, 9), (2, 10), (2, 11)]) (C' := []) (S' := none) Fr_16 (by decide) (fun _ h => h) (Or.inl rfl)) (gF.mo (F' := [(2, 9), (2, 10), (2, 11)]) (C' := []) (S' := none) Fr_97 (by decide) (fun _ h => h) (Or.inr rfl))))), hG, by rw [ht9]; exact hP, hD⟩⟩, hS.F ht9⟩) hS.2.2 dX2_decode_252
            · refine lv_aload_n hx hb dX2_decode_125 rfl (lv_at hl 1 rfl) ?_
              refine lv_bipush (v := 19) hx hb dX2_decode_126 (by decide) ?_
              refine lv_aload_n hx hb dX2_decode_128 rfl (lv_at hl 1 rfl) ?_
              refine lv_iload_n hx hb dX2_decode_129 rfl (lv_at hl 2 rfl) ?_
              refine lv_iconst (v := 1) hx hb dX2_decode_130 (by decide) ?_
              refine lv_iadd hx hb dX2_decode_131 ?_
              refine lv_topi (fun z_102 ez_102 => ?_)
              have hFc := gfree hD hS hA
              refine va_calli (va_runV (As := [.int z_102]) (rest := [.int 19, .ref h0]) ⟨hx, hb, hml, hown, hts⟩ (m_X2_u1_x l g H.size ws_14 h0 (z_102) hG o_h0) (cwV 1 hts (gd_V kw_682 kw_812 kw_813 kw_389 kw_811) rfl rfl rfl (by decide +kernel) ⟨Nat.le_of_ble_eq_true rfl, Nat.le_of_ble_eq_true rfl⟩) ⟨gblind, va_recv hK hP (ci := 2) (q0 := k_4) rfl hk_4, fun U hU hW9 => gmk hU hW9 hP hK hD hex hE hS hFc⟩ rfl rfl hl.1 rfl (lv_room (Nat.le_of_ble_eq_true rfl)) dX2_decode_132 ⟨Nat.le_of_ble_eq_true rfl, Nat.le_of_ble_eq_true rfl⟩) hS (fun q _ h => hFc q h) hFc (fun r_103 u9 t9 H1 locs ht9 hvm9 hw9 hB9 hz9 hk9 hS => ?_)
              have hP : va_P (gD g) cl0 ws_14 H1 := by rw [← ht9]; exact hB9.1
              obtain ⟨hw9, xp_104⟩ := hw9
              clear hB9 hz9 hk9 hvm9 ht9 hw9
              generalize H1 = H at hP hS ⊢
              obtain ⟨z_105, ez_105⟩ : ∃ y : Int64, (r_103 : Int32).toInt64 = y := ⟨_, rfl⟩
              refine lv_i2l (v := z_105) hx hb dX2_decode_135 ez_105 ?_
              have hFc := gfree hD hS hA
              refine va_callv (va_runV (As := [.int 19, .long z_105]) (rest := []) ⟨hx, hb, hml, hown, hts⟩ (m_X2_set_y l g H.size ws_14 h0 (19) (z_105) hG o_h0) (cwV 2 hts (gd_V kw_684 kw_793 kw_794 kw_389 kw_792) rfl rfl rfl (by decide +kernel) ⟨Nat.le_of_ble_eq_true rfl, Nat.le_of_ble_eq_true rfl⟩) ⟨gblind, va_recv hK hP (ci := 2) (q0 := k_4) rfl hk_4, fun U hU hW9 => gmk hU hW9 hP hK hD hex hE hS hFc⟩ rfl rfl hl.1 rfl (lv_room (Nat.le_of_ble_eq_true rfl)) dX2_decode_136 ⟨Nat.le_of_ble_eq_true rfl, Nat.le_of_ble_eq_true rfl⟩) hS (fun q _ h => hFc q h) hFc (fun  ws_106 t9 H1 locs ht9 hvm9 hw9 hB9 hz9 hk9 hS => ?_)
              obtain ⟨E_107, Fr_108, hG, hP1, hD1⟩ := hB9
              have hP : va_P (gD g) cl0 ws_106 H1 := by rw [← ht9]; exact hP1
              have hD : va_D A ws_106 := hD1.weaken (fun _ _ _ h => hFc _ h)
              obtain ⟨hw9, xp_111⟩ := hw9
              clear hP1 hD1 hz9 hk9 hvm9 ht9 hw9
              generalize H1 = H at hP hS ⊢
              have aa_112 := a_r7_4
              have o_h0 := E_107.1 _ _ o_h0
              refine lv_goto (tgt := 252) hx hb dX2_decode_139 (by decide) ?_
              refine W.widen (k := 0) (n := 0) (Nat.le_of_ble_eq_true rfl) (Nat.le_of_ble_eq_true rfl) ?_
              exact W.vret hx hb hr (fun t9 ht9 hW9 => ⟨⟨ws_106, rfl, ⟨trivial, ⟨⟨_, _, xp_111, fun h9 => absurd h9 (by unfold isS; decide)⟩, (fun f9 e9 n9 c9 s9 q9 hs => absurd (show isS r_2 from (by rw [xp_3 _ _ _ _ _ q9]; exact hs)) (by unfold isS; exact (by have e2 : (2 : Int32).toInt = 2 := (by decide); have e9 : (9 : Int32).toInt = 9 := (by decide); have e10 : (10 : Int32).toInt = 10 := (by decide); have e16 : (16 : Int32).toInt = 16 := (by decide); have e17 : (17 : Int32).toInt = 17 := (by decide); have e18 : (18 : Int32).toInt = 18 := (by decide); have q_c_17 := i_lt c_17; have q_c_18 := i_ne c_18; have q_c_28 := i_ne c_28; have q_c_29 := i_ne c_29; have q_c_30 := i_ne c_30; have q_c_31 := i_eq c_31; have g_r_2 := i_rg r_2; omega)))⟩⟩, ⟨(E_7.tr (E_11.tr (E_15.tr E_107))), (gF.tr (gF.mo (F' := [(2, 9), (2, 10), (2, 11)]) (C' := []) (S' := none) Fr_8 (by decide) (fun _ h => h) (Or.inl rfl)) (gF.tr (gF.mo (F' := [(2, 9), (2, 10), (2, 11)]) (C' := []) (S' := none) Fr_12 (by decide) (fun _ h => h) (Or.inl rfl)) (gF.tr (gF.mo (F' := [(2, 9), (2, 10), (2, 11)]) (C' := []) (S' := none) Fr_16 (by decide) (fun _ h => h) (Or.inl rfl)) (gF.mo (F' := [(2, 9), (2, 10), (2, 11)]) (C' := []) (S' := none) Fr_108 (by decide) (fun _ h => h) (Or.inr rfl))))), hG, by rw [ht9]; exact hP, hD⟩⟩, hS.F ht9⟩) hS.2.2 dX2_decode_252
          · refine lv_aload_n hx hb dX2_decode_101 rfl (lv_at hl 1 rfl) ?_
            refine lv_bipush (v := 17) hx hb dX2_decode_102 (by decide) ?_
            refine lv_aload_n hx hb dX2_decode_104 rfl (lv_at hl 1 rfl) ?_
            refine lv_iload_n hx hb dX2_decode_105 rfl (lv_at hl 2 rfl) ?_
            refine lv_iconst (v := 1) hx hb dX2_decode_106 (by decide) ?_
            refine lv_iadd hx hb dX2_decode_107 ?_
            refine lv_topi (fun z_113 ez_113 => ?_)
            have hFc := gfree hD hS hA
            refine va_calli (va_runV (As := [.int z_113]) (rest := [.int 17, .ref h0]) ⟨hx, hb, hml, hown, hts⟩ (m_X2_u2 l g H.size ws_14 h0 (z_113) hG o_h0) (cwV 1 hts (gd_V kw_685 kw_816 kw_817 kw_389 kw_815) rfl rfl rfl (by decide +kernel) ⟨Nat.le_of_ble_eq_true rfl, Nat.le_of_ble_eq_true rfl⟩) ⟨gblind, va_recv hK hP (ci := 2) (q0 := k_4) rfl hk_4, fun U hU hW9 => gmk hU hW9 hP hK hD hex hE hS hFc⟩ rfl rfl hl.1 rfl (lv_room (Nat.le_of_ble_eq_true rfl)) dX2_decode_108 ⟨Nat.le_of_ble_eq_true rfl, Nat.le_of_ble_eq_true rfl⟩) hS (fun q _ h => hFc q h) hFc (fun r_114 u9 t9 H1 locs ht9 hvm9 hw9 hB9 hz9 hk9 hS => ?_)
            have hP : va_P (gD g) cl0 ws_14 H1 := by rw [← ht9]; exact hB9.1
            clear hB9 hz9 hk9 hvm9 ht9 hw9
            generalize H1 = H at hP hS ⊢
            obtain ⟨z_115, ez_115⟩ : ∃ y : Int32, (r_114 : Int32).toInt16.toInt32 = y := ⟨_, rfl⟩
            refine lv_i2s (v := z_115) hx hb dX2_decode_111 ez_115 ?_
            obtain ⟨z_116, ez_116⟩ : ∃ y : Int64, (z_115 : Int32).toInt64 = y := ⟨_, rfl⟩
            refine lv_i2l (v := z_116) hx hb dX2_decode_112 ez_116 ?_
            have hFc := gfree hD hS hA
            refine va_callv (va_runV (As := [.int 17, .long z_116]) (rest := []) ⟨hx, hb, hml, hown, hts⟩ (m_X2_set_y l g H.size ws_14 h0 (17) (z_116) hG o_h0) (cwV 2 hts (gd_V kw_684 kw_793 kw_794 kw_389 kw_792) rfl rfl rfl (by decide +kernel) ⟨Nat.le_of_ble_eq_true rfl, Nat.le_of_ble_eq_true rfl⟩) ⟨gblind, va_recv hK hP (ci := 2) (q0 := k_4) rfl hk_4, fun U hU hW9 => gmk hU hW9 hP hK hD hex hE hS hFc⟩ rfl rfl hl.1 rfl (lv_room (Nat.le_of_ble_eq_true rfl)) dX2_decode_113 ⟨Nat.le_of_ble_eq_true rfl, Nat.le_of_ble_eq_true rfl⟩) hS (fun q _ h => hFc q h) hFc (fun  ws_117 t9 H1 locs ht9 hvm9 hw9 hB9 hz9 hk9 hS => ?_)
            obtain ⟨E_118, Fr_119, hG, hP1, hD1⟩ := hB9
            have hP : va_P (gD g) cl0 ws_117 H1 := by rw [← ht9]; exact hP1
            have hD : va_D A ws_117 := hD1.weaken (fun _ _ _ h => hFc _ h)
            obtain ⟨hw9, xp_122⟩ := hw9
            clear hP1 hD1 hz9 hk9 hvm9 ht9 hw9
            generalize H1 = H at hP hS ⊢
            have aa_123 := a_r7_4
            have o_h0 := E_118.1 _ _ o_h0
            refine lv_goto (tgt := 252) hx hb dX2_decode_116 (by decide) ?_
            refine W.widen (k := 0) (n := 0) (Nat.le_of_ble_eq_true rfl) (Nat.le_of_ble_eq_true rfl) ?_
            exact W.vret hx hb hr (fun t9 ht9 hW9 => ⟨⟨ws_117, rfl, ⟨trivial, ⟨⟨_, _, xp_122, fun h9 => absurd h9 (by unfold isS; decide)⟩, (fun f9 e9 n9 c9 s9 q9 hs => absurd (show isS r_2 from (by rw [xp_3 _ _ _ _ _ q9]; exact hs)) (by unfold isS; exact (by have e2 : (2 : Int32).toInt = 2 := (by decide); have e9 : (9 : Int32).toInt = 9 := (by decide); have e10 : (10 : Int32).toInt = 10 := (by decide); have e16 : (16 : Int32).toInt = 16 := (by decide); have e17 : (17 : Int32).toInt = 17 := (by decide); have q_c_17 := i_lt c_17; have q_c_18 := i_ne c_18; have q_c_28 := i_ne c_28; have q_c_29 := i_ne c_29; have q_c_30 := i_eq c_30; have g_r_2 := i_rg r_2; omega)))⟩⟩, ⟨(E_7.tr (E_11.tr (E_15.tr E_118))), (gF.tr (gF.mo (F' := [(2, 9), (2, 10), (2, 11)]) (C' := []) (S' := none) Fr_8 (by decide) (fun _ h => h) (Or.inl rfl)) (gF.tr (gF.mo (F' := [(2, 9), (2, 10), (2, 11)]) (C' := []) (S' := none) Fr_12 (by decide) (fun _ h => h) (Or.inl rfl)) (gF.tr (gF.mo (F' := [(2, 9), (2, 10), (2, 11)]) (C' := []) (S' := none) Fr_16 (by decide) (fun _ h => h) (Or.inl rfl)) (gF.mo (F' := [(2, 9), (2, 10), (2, 11)]) (C' := []) (S' := none) Fr_119 (by decide) (fun _ h => h) (Or.inr rfl))))), hG, by rw [ht9]; exact hP, hD⟩⟩, hS.F ht9⟩) hS.2.2 dX2_decode_252
        · refine lv_aload_n hx hb dX2_decode_77 rfl (lv_at hl 1 rfl) ?_
          refine lv_bipush (v := 17) hx hb dX2_decode_78 (by decide) ?_
          refine lv_aload_n hx hb dX2_decode_80 rfl (lv_at hl 1 rfl) ?_
          refine lv_iload_n hx hb dX2_decode_81 rfl (lv_at hl 2 rfl) ?_
          refine lv_iconst (v := 1) hx hb dX2_decode_82 (by decide) ?_
          refine lv_iadd hx hb dX2_decode_83 ?_
          refine lv_topi (fun z_124 ez_124 => ?_)
          have hFc := gfree hD hS hA
          refine va_calli (va_runV (As := [.int z_124]) (rest := [.int 17, .ref h0]) ⟨hx, hb, hml, hown, hts⟩ (m_X2_u1_x l g H.size ws_14 h0 (z_124) hG o_h0) (cwV 1 hts (gd_V kw_682 kw_812 kw_813 kw_389 kw_811) rfl rfl rfl (by decide +kernel) ⟨Nat.le_of_ble_eq_true rfl, Nat.le_of_ble_eq_true rfl⟩) ⟨gblind, va_recv hK hP (ci := 2) (q0 := k_4) rfl hk_4, fun U hU hW9 => gmk hU hW9 hP hK hD hex hE hS hFc⟩ rfl rfl hl.1 rfl (lv_room (Nat.le_of_ble_eq_true rfl)) dX2_decode_84 ⟨Nat.le_of_ble_eq_true rfl, Nat.le_of_ble_eq_true rfl⟩) hS (fun q _ h => hFc q h) hFc (fun r_125 u9 t9 H1 locs ht9 hvm9 hw9 hB9 hz9 hk9 hS => ?_)
          have hP : va_P (gD g) cl0 ws_14 H1 := by rw [← ht9]; exact hB9.1
          obtain ⟨hw9, xp_126⟩ := hw9
          clear hB9 hz9 hk9 hvm9 ht9 hw9
          generalize H1 = H at hP hS ⊢
          obtain ⟨z_127, ez_127⟩ : ∃ y : Int32, (r_125 : Int32).toInt8.toInt32 = y := ⟨_, rfl⟩
          refine lv_i2b (v := z_127) hx hb dX2_decode_87 ez_127 ?_
          obtain ⟨z_128, ez_128⟩ : ∃ y : Int64, (z_127 : Int32).toInt64 = y := ⟨_, rfl⟩
          refine lv_i2l (v := z_128) hx hb dX2_decode_88 ez_128 ?_
          have hFc := gfree hD hS hA
          refine va_callv (va_runV (As := [.int 17, .long z_128]) (rest := []) ⟨hx, hb, hml, hown, hts⟩ (m_X2_set_y l g H.size ws_14 h0 (17) (z_128) hG o_h0) (cwV 2 hts (gd_V kw_684 kw_793 kw_794 kw_389 kw_792) rfl rfl rfl (by decide +kernel) ⟨Nat.le_of_ble_eq_true rfl, Nat.le_of_ble_eq_true rfl⟩) ⟨gblind, va_recv hK hP (ci := 2) (q0 := k_4) rfl hk_4, fun U hU hW9 => gmk hU hW9 hP hK hD hex hE hS hFc⟩ rfl rfl hl.1 rfl (lv_room (Nat.le_of_ble_eq_true rfl)) dX2_decode_89 ⟨Nat.le_of_ble_eq_true rfl, Nat.le_of_ble_eq_true rfl⟩) hS (fun q _ h => hFc q h) hFc (fun  ws_129 t9 H1 locs ht9 hvm9 hw9 hB9 hz9 hk9 hS => ?_)
          obtain ⟨E_130, Fr_131, hG, hP1, hD1⟩ := hB9
          have hP : va_P (gD g) cl0 ws_129 H1 := by rw [← ht9]; exact hP1
          have hD : va_D A ws_129 := hD1.weaken (fun _ _ _ h => hFc _ h)
          obtain ⟨hw9, xp_134⟩ := hw9
          clear hP1 hD1 hz9 hk9 hvm9 ht9 hw9
          generalize H1 = H at hP hS ⊢
          have aa_135 := a_r7_4
          have o_h0 := E_130.1 _ _ o_h0
          refine lv_goto (tgt := 252) hx hb dX2_decode_92 (by decide) ?_
          refine W.widen (k := 0) (n := 0) (Nat.le_of_ble_eq_true rfl) (Nat.le_of_ble_eq_true rfl) ?_
          exact W.vret hx hb hr (fun t9 ht9 hW9 => ⟨⟨ws_129, rfl, ⟨trivial, ⟨⟨_, _, xp_134, fun h9 => absurd h9 (by unfold isS; decide)⟩, (fun f9 e9 n9 c9 s9 q9 hs => absurd (show isS r_2 from (by rw [xp_3 _ _ _ _ _ q9]; exact hs)) (by unfold isS; exact (by have e2 : (2 : Int32).toInt = 2 := (by decide); have e9 : (9 : Int32).toInt = 9 := (by decide); have e10 : (10 : Int32).toInt = 10 := (by decide); have e16 : (16 : Int32).toInt = 16 := (by decide); have q_c_17 := i_lt c_17; have q_c_18 := i_ne c_18; have q_c_28 := i_ne c_28; have q_c_29 := i_eq c_29; have g_r_2 := i_rg r_2; omega)))⟩⟩, ⟨(E_7.tr (E_11.tr (E_15.tr E_130))), (gF.tr (gF.mo (F' := [(2, 9), (2, 10), (2, 11)]) (C' := []) (S' := none) Fr_8 (by decide) (fun _ h => h) (Or.inl rfl)) (gF.tr (gF.mo (F' := [(2, 9), (2, 10), (2, 11)]) (C' := []) (S' := none) Fr_12 (by decide) (fun _ h => h) (Or.inl rfl)) (gF.tr (gF.mo (F' := [(2, 9), (2, 10), (2, 11)]) (C' := []) (S' := none) Fr_16 (by decide) (fun _ h => h) (Or.inl rfl)) (gF.mo (F' := [(2, 9), (2, 10), (2, 11)]) (C' := []) (S' := none) Fr_131 (by decide) (fun _ h => h) (Or.inr rfl))))), hG, by rw [ht9]; exact hP, hD⟩⟩, hS.F ht9⟩) hS.2.2 dX2_decode_252
      · refine lv_aload_n hx hb dX2_decode_57 rfl (lv_at hl 1 rfl) ?_
        refine lv_bipush (v := 9) hx hb dX2_decode_58 (by decide) ?_
        refine lv_iload_n hx hb dX2_decode_60 rfl (lv_at hl 0 rfl) ?_
        refine lv_bipush (v := 9) hx hb dX2_decode_61 (by decide) ?_
        refine lv_isub hx hb dX2_decode_63 ?_
        refine lv_topi (fun z_136 ez_136 => ?_)
        obtain ⟨z_137, ez_137⟩ : ∃ y : Int64, (z_136 : Int32).toInt64 = y := ⟨_, rfl⟩
        refine lv_i2l (v := z_137) hx hb dX2_decode_64 ez_137 ?_
        have hFc := gfree hD hS hA
        refine va_callv (va_runV (As := [.int 9, .long z_137]) (rest := []) ⟨hx, hb, hml, hown, hts⟩ (m_X2_set_y l g H.size ws_14 h0 (9) (z_137) hG o_h0) (cwV 2 hts (gd_V kw_684 kw_793 kw_794 kw_389 kw_792) rfl rfl rfl (by decide +kernel) ⟨Nat.le_of_ble_eq_true rfl, Nat.le_of_ble_eq_true rfl⟩) ⟨gblind, va_recv hK hP (ci := 2) (q0 := k_4) rfl hk_4, fun U hU hW9 => gmk hU hW9 hP hK hD hex hE hS hFc⟩ rfl rfl hl.1 rfl (lv_room (Nat.le_of_ble_eq_true rfl)) dX2_decode_65 ⟨Nat.le_of_ble_eq_true rfl, Nat.le_of_ble_eq_true rfl⟩) hS (fun q _ h => hFc q h) hFc (fun  ws_138 t9 H1 locs ht9 hvm9 hw9 hB9 hz9 hk9 hS => ?_)
        obtain ⟨E_139, Fr_140, hG, hP1, hD1⟩ := hB9
        have hP : va_P (gD g) cl0 ws_138 H1 := by rw [← ht9]; exact hP1
        have hD : va_D A ws_138 := hD1.weaken (fun _ _ _ h => hFc _ h)
        obtain ⟨hw9, xp_143⟩ := hw9
        clear hP1 hD1 hz9 hk9 hvm9 ht9 hw9
        generalize H1 = H at hP hS ⊢
        have aa_144 := a_r7_4
        have o_h0 := E_139.1 _ _ o_h0
        refine lv_goto (tgt := 252) hx hb dX2_decode_68 (by decide) ?_
        refine W.widen (k := 0) (n := 0) (Nat.le_of_ble_eq_true rfl) (Nat.le_of_ble_eq_true rfl) ?_
        exact W.vret hx hb hr (fun t9 ht9 hW9 => ⟨⟨ws_138, rfl, ⟨trivial, ⟨⟨_, _, xp_143, fun h9 => absurd h9 (by unfold isS; decide)⟩, (fun f9 e9 n9 c9 s9 q9 hs => absurd (show isS r_2 from (by rw [xp_3 _ _ _ _ _ q9]; exact hs)) (by unfold isS; exact (by have e2 : (2 : Int32).toInt = 2 := (by decide); have e9 : (9 : Int32).toInt = 9 := (by decide); have e10 : (10 : Int32).toInt = 10 := (by decide); have q_c_17 := i_lt c_17; have q_c_18 := i_ne c_18; have q_c_28 := i_eq c_28; obtain ⟨u_z_136, q_z_136⟩ := i_sub ez_136; have q_z_137 := l_of ez_137; have g_r_2 := i_rg r_2; have g_z_136 := i_rg z_136; omega)))⟩⟩, ⟨(E_7.tr (E_11.tr (E_15.tr E_139))), (gF.tr (gF.mo (F' := [(2, 9), (2, 10), (2, 11)]) (C' := []) (S' := none) Fr_8 (by decide) (fun _ h => h) (Or.inl rfl)) (gF.tr (gF.mo (F' := [(2, 9), (2, 10), (2, 11)]) (C' := []) (S' := none) Fr_12 (by decide) (fun _ h => h) (Or.inl rfl)) (gF.tr (gF.mo (F' := [(2, 9), (2, 10), (2, 11)]) (C' := []) (S' := none) Fr_16 (by decide) (fun _ h => h) (Or.inl rfl)) (gF.mo (F' := [(2, 9), (2, 10), (2, 11)]) (C' := []) (S' := none) Fr_140 (by decide) (fun _ h => h) (Or.inr rfl))))), hG, by rw [ht9]; exact hP, hD⟩⟩, hS.F ht9⟩) hS.2.2 dX2_decode_252
  · refine lv_iload_n hx hb dX2_decode_26 rfl (lv_at hl 0 rfl) ?_
    refine lv_bipush (v := 8) hx hb dX2_decode_27 (by decide) ?_
    refine lv_icmp_gt (tgt := 45) hx hb dX2_decode_29 (by decide) (fun c_145 => ?_) (fun c_145 => ?_)
    · refine lv_iload_n hx hb dX2_decode_45 rfl (lv_at hl 0 rfl) ?_
      refine lv_bipush (v := 9) hx hb dX2_decode_46 (by decide) ?_
      refine lv_icmp_eq (tgt := 57) hx hb dX2_decode_48 (by decide) (fun c_146 => ?_) (fun c_146 => ?_)
      · refine lv_aload_n hx hb dX2_decode_57 rfl (lv_at hl 1 rfl) ?_
        refine lv_bipush (v := 9) hx hb dX2_decode_58 (by decide) ?_
        refine lv_iload_n hx hb dX2_decode_60 rfl (lv_at hl 0 rfl) ?_
        refine lv_bipush (v := 9) hx hb dX2_decode_61 (by decide) ?_
        refine lv_isub hx hb dX2_decode_63 ?_
        refine lv_topi (fun z_147 ez_147 => ?_)
        obtain ⟨z_148, ez_148⟩ : ∃ y : Int64, (z_147 : Int32).toInt64 = y := ⟨_, rfl⟩
        refine lv_i2l (v := z_148) hx hb dX2_decode_64 ez_148 ?_
        have hFc := gfree hD hS hA
        refine va_callv (va_runV (As := [.int 9, .long z_148]) (rest := []) ⟨hx, hb, hml, hown, hts⟩ (m_X2_set_y l g H.size ws_14 h0 (9) (z_148) hG o_h0) (cwV 2 hts (gd_V kw_684 kw_793 kw_794 kw_389 kw_792) rfl rfl rfl (by decide +kernel) ⟨Nat.le_of_ble_eq_true rfl, Nat.le_of_ble_eq_true rfl⟩) ⟨gblind, va_recv hK hP (ci := 2) (q0 := k_4) rfl hk_4, fun U hU hW9 => gmk hU hW9 hP hK hD hex hE hS hFc⟩ rfl rfl hl.1 rfl (lv_room (Nat.le_of_ble_eq_true rfl)) dX2_decode_65 ⟨Nat.le_of_ble_eq_true rfl, Nat.le_of_ble_eq_true rfl⟩) hS (fun q _ h => hFc q h) hFc (fun  ws_149 t9 H1 locs ht9 hvm9 hw9 hB9 hz9 hk9 hS => ?_)
        obtain ⟨E_150, Fr_151, hG, hP1, hD1⟩ := hB9
        have hP : va_P (gD g) cl0 ws_149 H1 := by rw [← ht9]; exact hP1
        have hD : va_D A ws_149 := hD1.weaken (fun _ _ _ h => hFc _ h)
        obtain ⟨hw9, xp_154⟩ := hw9
        clear hP1 hD1 hz9 hk9 hvm9 ht9 hw9
        generalize H1 = H at hP hS ⊢
        have aa_155 := a_r7_4
        have o_h0 := E_150.1 _ _ o_h0
        refine lv_goto (tgt := 252) hx hb dX2_decode_68 (by decide) ?_
        refine W.widen (k := 0) (n := 0) (Nat.le_of_ble_eq_true rfl) (Nat.le_of_ble_eq_true rfl) ?_
        exact W.vret hx hb hr (fun t9 ht9 hW9 => ⟨⟨ws_149, rfl, ⟨trivial, ⟨⟨_, _, xp_154, fun h9 => absurd h9 (by unfold isS; decide)⟩, (fun f9 e9 n9 c9 s9 q9 hs => absurd (show isS r_2 from (by rw [xp_3 _ _ _ _ _ q9]; exact hs)) (by unfold isS; exact (by have e2 : (2 : Int32).toInt = 2 := (by decide); have e8 : (8 : Int32).toInt = 8 := (by decide); have e9 : (9 : Int32).toInt = 9 := (by decide); have q_c_17 := i_nlt c_17; have q_c_145 := i_lt c_145; have q_c_146 := i_eq c_146; obtain ⟨u_z_147, q_z_147⟩ := i_sub ez_147; have q_z_148 := l_of ez_148; have g_r_2 := i_rg r_2; have g_z_147 := i_rg z_147; omega)))⟩⟩, ⟨(E_7.tr (E_11.tr (E_15.tr E_150))), (gF.tr (gF.mo (F' := [(2, 9), (2, 10), (2, 11)]) (C' := []) (S' := none) Fr_8 (by decide) (fun _ h => h) (Or.inl rfl)) (gF.tr (gF.mo (F' := [(2, 9), (2, 10), (2, 11)]) (C' := []) (S' := none) Fr_12 (by decide) (fun _ h => h) (Or.inl rfl)) (gF.tr (gF.mo (F' := [(2, 9), (2, 10), (2, 11)]) (C' := []) (S' := none) Fr_16 (by decide) (fun _ h => h) (Or.inl rfl)) (gF.mo (F' := [(2, 9), (2, 10), (2, 11)]) (C' := []) (S' := none) Fr_151 (by decide) (fun _ h => h) (Or.inr rfl))))), hG, by rw [ht9]; exact hP, hD⟩⟩, hS.F ht9⟩) hS.2.2 dX2_decode_252
      · refine lv_iload_n hx hb dX2_decode_51 rfl (lv_at hl 0 rfl) ?_
        refine lv_bipush (v := 10) hx hb dX2_decode_52 (by decide) ?_
        refine lv_icmp_ne (tgt := 71) hx hb dX2_decode_54 (by decide) (fun c_156 => ?_) (fun c_156 => ?_)
        · refine lv_iload_n hx hb dX2_decode_71 rfl (lv_at hl 0 rfl) ?_
          refine lv_bipush (v := 16) hx hb dX2_decode_72 (by decide) ?_
          refine lv_icmp_ne (tgt := 95) hx hb dX2_decode_74 (by decide) (fun c_157 => ?_) (fun c_157 => ?_)
          · refine lv_iload_n hx hb dX2_decode_95 rfl (lv_at hl 0 rfl) ?_
            refine lv_bipush (v := 17) hx hb dX2_decode_96 (by decide) ?_
            refine lv_icmp_ne (tgt := 119) hx hb dX2_decode_98 (by decide) (fun c_158 => ?_) (fun c_158 => ?_)
            · refine lv_iload_n hx hb dX2_decode_119 rfl (lv_at hl 0 rfl) ?_
              refine lv_bipush (v := 18) hx hb dX2_decode_120 (by decide) ?_
              refine lv_icmp_ne (tgt := 142) hx hb dX2_decode_122 (by decide) (fun c_159 => ?_) (fun c_159 => ?_)
              · refine lv_iload_n hx hb dX2_decode_142 rfl (lv_at hl 0 rfl) ?_
                refine lv_sipush (v := 200) hx hb dX2_decode_143 (by decide) ?_
                refine lv_icmp_ne (tgt := 170) hx hb dX2_decode_146 (by decide) (fun c_160 => ?_) (fun c_160 => ?_)
                · refine lv_iload_n hx hb dX2_decode_170 rfl (lv_at hl 0 rfl) ?_
                  have hFc := gfree hD hS hA
                  refine va_calli (va_runS (As := [.int r_2]) (rest := []) ⟨hx, hb, hml, hown, hts⟩ (m_X6_isJump_y l g H.size ws_14 (r_2) hG ) (va_cwS 1 hts (gd_S kw_629 kw_1225 kw_1207 kw_1224) rfl rfl rfl (by decide +kernel) ⟨Nat.le_of_ble_eq_true rfl, Nat.le_of_ble_eq_true rfl⟩) ⟨gblind, fun U hU hW9 => gmk hU hW9 hP hK hD hex hE hS hFc⟩ rfl rfl hl.1 rfl (lv_room (Nat.le_of_ble_eq_true rfl)) dX2_decode_171 ⟨Nat.le_of_ble_eq_true rfl, Nat.le_of_ble_eq_true rfl⟩) hS (fun q _ h => hFc q h) hFc (fun r_161 u9 t9 H1 locs ht9 hvm9 hw9 hB9 hz9 hk9 hS => ?_)
                  have hP : va_P (gD g) cl0 ws_14 H1 := by rw [← ht9]; exact hB9.1
                  obtain ⟨hw9, xp_162⟩ := hw9
                  have hz_r_161 : r_161 = 0 ∨ r_161 = 1 := hw9
                  clear hB9 hz9 hk9 hvm9 ht9 hw9
                  generalize H1 = H at hP hS ⊢
                  refine lv_if_eq (tgt := 196) hx hb dX2_decode_174 (by decide) (fun c_163 => ?_) (fun c_163 => ?_)
                  · refine lv_iload_n hx hb dX2_decode_196 rfl (lv_at hl 0 rfl) ?_
                    have hFc := gfree hD hS hA
                    refine va_calli (va_runS (As := [.int r_2]) (rest := []) ⟨hx, hb, hml, hown, hts⟩ (m_X6_isSwitch_y l g H.size ws_14 (r_2) hG ) (va_cwS 1 hts (gd_S kw_630 kw_1233 kw_1207 kw_1232) rfl rfl rfl (by decide +kernel) ⟨Nat.le_of_ble_eq_true rfl, Nat.le_of_ble_eq_true rfl⟩) ⟨gblind, fun U hU hW9 => gmk hU hW9 hP hK hD hex hE hS hFc⟩ rfl rfl hl.1 rfl (lv_room (Nat.le_of_ble_eq_true rfl)) dX2_decode_197 ⟨Nat.le_of_ble_eq_true rfl, Nat.le_of_ble_eq_true rfl⟩) hS (fun q _ h => hFc q h) hFc (fun r_164 u9 t9 H1 locs ht9 hvm9 hw9 hB9 hz9 hk9 hS => ?_)
                    have hP : va_P (gD g) cl0 ws_14 H1 := by rw [← ht9]; exact hB9.1
                    obtain ⟨hw9, xp_165⟩ := hw9
                    have hz_r_164 : r_164 = 0 ∨ r_164 = 1 := hw9
                    clear hB9 hz9 hk9 hvm9 ht9 hw9
                    generalize H1 = H at hP hS ⊢
                    refine lv_if_eq (tgt := 216) hx hb dX2_decode_200 (by decide) (fun c_166 => ?_) (fun c_166 => ?_)
                    · refine lv_iload_n hx hb dX2_decode_216 rfl (lv_at hl 0 rfl) ?_
                      have hFc := gfree hD hS hA
                      refine va_calli (va_runS (As := [.int r_2]) (rest := []) ⟨hx, hb, hml, hown, hts⟩ (m_X6_lengthOf_x l g H.size ws_14 (r_2) hG ) (va_cwS 1 hts (gd_S kw_687 kw_1244 kw_1207 kw_1243) rfl rfl rfl (by decide +kernel) ⟨Nat.le_of_ble_eq_true rfl, Nat.le_of_ble_eq_true rfl⟩) ⟨gblind, fun U hU hW9 => gmk hU hW9 hP hK hD hex hE hS hFc⟩ rfl rfl hl.1 rfl (lv_room (Nat.le_of_ble_eq_true rfl)) dX2_decode_217 ⟨Nat.le_of_ble_eq_true rfl, Nat.le_of_ble_eq_true rfl⟩) hS (fun q _ h => hFc q h) hFc (fun r_167 u9 t9 H1 locs ht9 hvm9 hw9 hB9 hz9 hk9 hS => ?_)
                      have hP : va_P (gD g) cl0 ws_14 H1 := by rw [← ht9]; exact hB9.1
                      obtain ⟨hw9, xp_168⟩ := hw9
                      have h_r_167 := hw9
                      clear hB9 hz9 hk9 hvm9 ht9 hw9
                      generalize H1 = H at hP hS ⊢
                      refine lv_iconst (v := 3) hx hb dX2_decode_220 (by decide) ?_
                      refine lv_icmp_ne (tgt := 247) hx hb dX2_decode_221 (by decide) (fun c_169 => ?_) (fun c_169 => ?_)
                      · refine lv_aload_n hx hb dX2_decode_247 rfl (lv_at hl 1 rfl) ?_
                        refine lv_iload_n hx hb dX2_decode_248 rfl (lv_at hl 2 rfl) ?_
                        have hkS := hk_4
                        have hDS := hD
                        have hFc := gfree hD hS hA
                        refine va_callv (va_runV (As := [.int x1]) (rest := []) ⟨hx, hb, hml, hown, hts⟩ (m_X2_decodeLocal_y l g H.size ws_14 h0 (x1) hG o_h0) (cwV 1 hts (gd_V kw_688 kw_690 kw_691 kw_389 kw_689) rfl rfl rfl (by decide +kernel) ⟨Nat.le_of_ble_eq_true rfl, Nat.le_of_ble_eq_true rfl⟩) ⟨gblind, va_recv hK hP (ci := 2) (q0 := k_4) rfl hk_4, fun U hU hW9 => gmk hU hW9 hP hK hD hex hE hS hFc⟩ rfl rfl hl.1 rfl (lv_room (Nat.le_of_ble_eq_true rfl)) dX2_decode_249 ⟨Nat.le_of_ble_eq_true rfl, Nat.le_of_ble_eq_true rfl⟩) hS (fun q _ h => hFc q h) hFc (fun  ws_170 t9 H1 locs ht9 hvm9 hw9 hB9 hz9 hk9 hS => ?_)
                        obtain ⟨E_171, Fr_172, hG, hP1, hD1⟩ := hB9
                        have hP : va_P (gD g) cl0 ws_170 H1 := by rw [← ht9]; exact hP1
                        have hD : va_D A ws_170 := hD1.weaken (fun _ _ _ h => hFc _ h)
                        obtain ⟨hw9, xp_175⟩ := hw9
                        clear hP1 hD1 hz9 hk9 hvm9 ht9 hw9
                        generalize H1 = H at hP hS ⊢
                        have aa_176 := a_r7_4
                        have o_h0 := E_171.1 _ _ o_h0
                        refine W.widen (k := 0) (n := 0) (Nat.le_of_ble_eq_true rfl) (Nat.le_of_ble_eq_true rfl) ?_
                        exact W.vret hx hb hr (fun t9 ht9 hW9 => ⟨⟨ws_170, rfl, ⟨trivial, ⟨dc_l hDS hkS rfl rfl xp_3 (fun h9 => absurd (xp_165.mpr h9) (by have e0 : (0 : Int32).toInt = 0 := (by decide); have q_c_166 := i_eq c_166; have g_r_164 := i_rg r_164; have b_r_164 := i_bit hz_r_164; omega)) (fun _ _ _ _ _ q9 => vx_mo ((gF.tr (gF.mo (F' := [(2, 9), (2, 10), (2, 11)]) (C' := []) (S' := none) Fr_8 (by decide) (fun _ h => h) (Or.inl rfl)) (gF.tr (gF.mo (F' := [(2, 9), (2, 10), (2, 11)]) (C' := []) (S' := none) Fr_12 (by decide) (fun _ h => h) (Or.inl rfl)) (gF.mo (F' := [(2, 9), (2, 10), (2, 11)]) (C' := []) (S' := none) Fr_16 (by decide) (fun _ h => h) (Or.inl rfl))))) (by decide) (by decide) (by decide) (by decide) (by decide) (by decide) q9) xp_175, (fun f9 e9 n9 c9 s9 q9 hs => absurd (xp_165.mpr (by rw [xp_3 _ _ _ _ _ q9]; exact hs)) (by have e0 : (0 : Int32).toInt = 0 := (by decide); have q_c_166 := i_eq c_166; have g_r_164 := i_rg r_164; have b_r_164 := i_bit hz_r_164; omega))⟩⟩, ⟨(E_7.tr (E_11.tr (E_15.tr E_171))), (gF.tr (gF.mo (F' := [(2, 9), (2, 10), (2, 11)]) (C' := []) (S' := none) Fr_8 (by decide) (fun _ h => h) (Or.inl rfl)) (gF.tr (gF.mo (F' := [(2, 9), (2, 10), (2, 11)]) (C' := []) (S' := none) Fr_12 (by decide) (fun _ h => h) (Or.inl rfl)) (gF.tr (gF.mo (F' := [(2, 9), (2, 10), (2, 11)]) (C' := []) (S' := none) Fr_16 (by decide) (fun _ h => h) (Or.inl rfl)) (gF.mo (F' := [(2, 9), (2, 10), (2, 11)]) (C' := []) (S' := none) Fr_172 (by decide) (fun _ h => h) (Or.inr rfl))))), hG, by rw [ht9]; exact hP, hD⟩⟩, hS.F ht9⟩) hS.2.2 dX2_decode_252
                      · refine lv_iload_n hx hb dX2_decode_224 rfl (lv_at hl 0 rfl) ?_
                        refine lv_sipush (v := 132) hx hb dX2_decode_225 (by decide) ?_
                        refine lv_icmp_eq (tgt := 247) hx hb dX2_decode_228 (by decide) (fun c_177 => ?_) (fun c_177 => ?_)
                        · refine lv_aload_n hx hb dX2_decode_247 rfl (lv_at hl 1 rfl) ?_
                          refine lv_iload_n hx hb dX2_decode_248 rfl (lv_at hl 2 rfl) ?_
                          have hkS := hk_4
                          have hDS := hD
                          have hFc := gfree hD hS hA
                          refine va_callv (va_runV (As := [.int x1]) (rest := []) ⟨hx, hb, hml, hown, hts⟩ (m_X2_decodeLocal_y l g H.size ws_14 h0 (x1) hG o_h0) (cwV 1 hts (gd_V kw_688 kw_690 kw_691 kw_389 kw_689) rfl rfl rfl (by decide +kernel) ⟨Nat.le_of_ble_eq_true rfl, Nat.le_of_ble_eq_true rfl⟩) ⟨gblind, va_recv hK hP (ci := 2) (q0 := k_4) rfl hk_4, fun U hU hW9 => gmk hU hW9 hP hK hD hex hE hS hFc⟩ rfl rfl hl.1 rfl (lv_room (Nat.le_of_ble_eq_true rfl)) dX2_decode_249 ⟨Nat.le_of_ble_eq_true rfl, Nat.le_of_ble_eq_true rfl⟩) hS (fun q _ h => hFc q h) hFc (fun  ws_178 t9 H1 locs ht9 hvm9 hw9 hB9 hz9 hk9 hS => ?_)
                          obtain ⟨E_179, Fr_180, hG, hP1, hD1⟩ := hB9
                          have hP : va_P (gD g) cl0 ws_178 H1 := by rw [← ht9]; exact hP1
                          have hD : va_D A ws_178 := hD1.weaken (fun _ _ _ h => hFc _ h)
                          obtain ⟨hw9, xp_183⟩ := hw9
                          clear hP1 hD1 hz9 hk9 hvm9 ht9 hw9
                          generalize H1 = H at hP hS ⊢
                          have aa_184 := a_r7_4
                          have o_h0 := E_179.1 _ _ o_h0
                          refine W.widen (k := 0) (n := 0) (Nat.le_of_ble_eq_true rfl) (Nat.le_of_ble_eq_true rfl) ?_
                          exact W.vret hx hb hr (fun t9 ht9 hW9 => ⟨⟨ws_178, rfl, ⟨trivial, ⟨dc_l hDS hkS rfl rfl xp_3 (fun h9 => absurd (xp_165.mpr h9) (by have e0 : (0 : Int32).toInt = 0 := (by decide); have q_c_166 := i_eq c_166; have g_r_164 := i_rg r_164; have b_r_164 := i_bit hz_r_164; omega)) (fun _ _ _ _ _ q9 => vx_mo ((gF.tr (gF.mo (F' := [(2, 9), (2, 10), (2, 11)]) (C' := []) (S' := none) Fr_8 (by decide) (fun _ h => h) (Or.inl rfl)) (gF.tr (gF.mo (F' := [(2, 9), (2, 10), (2, 11)]) (C' := []) (S' := none) Fr_12 (by decide) (fun _ h => h) (Or.inl rfl)) (gF.mo (F' := [(2, 9), (2, 10), (2, 11)]) (C' := []) (S' := none) Fr_16 (by decide) (fun _ h => h) (Or.inl rfl))))) (by decide) (by decide) (by decide) (by decide) (by decide) (by decide) q9) xp_183, (fun f9 e9 n9 c9 s9 q9 hs => absurd (xp_165.mpr (by rw [xp_3 _ _ _ _ _ q9]; exact hs)) (by have e0 : (0 : Int32).toInt = 0 := (by decide); have q_c_166 := i_eq c_166; have g_r_164 := i_rg r_164; have b_r_164 := i_bit hz_r_164; omega))⟩⟩, ⟨(E_7.tr (E_11.tr (E_15.tr E_179))), (gF.tr (gF.mo (F' := [(2, 9), (2, 10), (2, 11)]) (C' := []) (S' := none) Fr_8 (by decide) (fun _ h => h) (Or.inl rfl)) (gF.tr (gF.mo (F' := [(2, 9), (2, 10), (2, 11)]) (C' := []) (S' := none) Fr_12 (by decide) (fun _ h => h) (Or.inl rfl)) (gF.tr (gF.mo (F' := [(2, 9), (2, 10), (2, 11)]) (C' := []) (S' := none) Fr_16 (by decide) (fun _ h => h) (Or.inl rfl)) (gF.mo (F' := [(2, 9), (2, 10), (2, 11)]) (C' := []) (S' := none) Fr_180 (by decide) (fun _ h => h) (Or.inr rfl))))), hG, by rw [ht9]; exact hP, hD⟩⟩, hS.F ht9⟩) hS.2.2 dX2_decode_252
                        · refine lv_aload_n hx hb dX2_decode_231 rfl (lv_at hl 1 rfl) ?_
                          refine lv_iload_n hx hb dX2_decode_232 rfl (lv_at hl 0 rfl) ?_
                          refine lv_aload_n hx hb dX2_decode_233 rfl (lv_at hl 1 rfl) ?_
                          refine lv_iload_n hx hb dX2_decode_234 rfl (lv_at hl 2 rfl) ?_
                          refine lv_iconst (v := 1) hx hb dX2_decode_235 (by decide) ?_
                          refine lv_iadd hx hb dX2_decode_236 ?_
                          refine lv_topi (fun z_185 ez_185 => ?_)
                          have hFc := gfree hD hS hA
                          refine va_calli (va_runV (As := [.int z_185]) (rest := [.int r_2, .ref h0]) ⟨hx, hb, hml, hown, hts⟩ (m_X2_u2 l g H.size ws_14 h0 (z_185) hG o_h0) (cwV 1 hts (gd_V kw_685 kw_816 kw_817 kw_389 kw_815) rfl rfl rfl (by decide +kernel) ⟨Nat.le_of_ble_eq_true rfl, Nat.le_of_ble_eq_true rfl⟩) ⟨gblind, va_recv hK hP (ci := 2) (q0 := k_4) rfl hk_4, fun U hU hW9 => gmk hU hW9 hP hK hD hex hE hS hFc⟩ rfl rfl hl.1 rfl (lv_room (Nat.le_of_ble_eq_true rfl)) dX2_decode_237 ⟨Nat.le_of_ble_eq_true rfl, Nat.le_of_ble_eq_true rfl⟩) hS (fun q _ h => hFc q h) hFc (fun r_186 u9 t9 H1 locs ht9 hvm9 hw9 hB9 hz9 hk9 hS => ?_)
                          have hP : va_P (gD g) cl0 ws_14 H1 := by rw [← ht9]; exact hB9.1
                          clear hB9 hz9 hk9 hvm9 ht9 hw9
                          generalize H1 = H at hP hS ⊢
                          obtain ⟨z_187, ez_187⟩ : ∃ y : Int64, (r_186 : Int32).toInt64 = y := ⟨_, rfl⟩
                          refine lv_i2l (v := z_187) hx hb dX2_decode_240 ez_187 ?_
                          have hFc := gfree hD hS hA
                          refine va_callv (va_runV (As := [.int r_2, .long z_187]) (rest := []) ⟨hx, hb, hml, hown, hts⟩ (m_X2_set_y l g H.size ws_14 h0 (r_2) (z_187) hG o_h0) (cwV 2 hts (gd_V kw_684 kw_793 kw_794 kw_389 kw_792) rfl rfl rfl (by decide +kernel) ⟨Nat.le_of_ble_eq_true rfl, Nat.le_of_ble_eq_true rfl⟩) ⟨gblind, va_recv hK hP (ci := 2) (q0 := k_4) rfl hk_4, fun U hU hW9 => gmk hU hW9 hP hK hD hex hE hS hFc⟩ rfl rfl hl.1 rfl (lv_room (Nat.le_of_ble_eq_true rfl)) dX2_decode_241 ⟨Nat.le_of_ble_eq_true rfl, Nat.le_of_ble_eq_true rfl⟩) hS (fun q _ h => hFc q h) hFc (fun  ws_188 t9 H1 locs ht9 hvm9 hw9 hB9 hz9 hk9 hS => ?_)
                          obtain ⟨E_189, Fr_190, hG, hP1, hD1⟩ := hB9
                          have hP : va_P (gD g) cl0 ws_188 H1 := by rw [← ht9]; exact hP1
                          have hD : va_D A ws_188 := hD1.weaken (fun _ _ _ h => hFc _ h)
                          obtain ⟨hw9, xp_193⟩ := hw9
                          clear hP1 hD1 hz9 hk9 hvm9 ht9 hw9
                          generalize H1 = H at hP hS ⊢
                          have aa_194 := a_r7_4
                          have o_h0 := E_189.1 _ _ o_h0
                          refine lv_goto (tgt := 252) hx hb dX2_decode_244 (by decide) ?_
                          refine W.widen (k := 0) (n := 0) (Nat.le_of_ble_eq_true rfl) (Nat.le_of_ble_eq_true rfl) ?_
                          exact W.vret hx hb hr (fun t9 ht9 hW9 => ⟨⟨ws_188, rfl, ⟨trivial, ⟨⟨_, _, xp_193, fun h9 => absurd (xp_165.mpr h9) (by have e0 : (0 : Int32).toInt = 0 := (by decide); have q_c_166 := i_eq c_166; have g_r_164 := i_rg r_164; have b_r_164 := i_bit hz_r_164; omega)⟩, (fun f9 e9 n9 c9 s9 q9 hs => absurd (xp_165.mpr (by rw [xp_3 _ _ _ _ _ q9]; exact hs)) (by have e0 : (0 : Int32).toInt = 0 := (by decide); have q_c_166 := i_eq c_166; have g_r_164 := i_rg r_164; have b_r_164 := i_bit hz_r_164; omega))⟩⟩, ⟨(E_7.tr (E_11.tr (E_15.tr E_189))), (gF.tr (gF.mo (F' := [(2, 9), (2, 10), (2, 11)]) (C' := []) (S' := none) Fr_8 (by decide) (fun _ h => h) (Or.inl rfl)) (gF.tr (gF.mo (F' := [(2, 9), (2, 10), (2, 11)]) (C' := []) (S' := none) Fr_12 (by decide) (fun _ h => h) (Or.inl rfl)) (gF.tr (gF.mo (F' := [(2, 9), (2, 10), (2, 11)]) (C' := []) (S' := none) Fr_16 (by decide) (fun _ h => h) (Or.inl rfl)) (gF.mo (F' := [(2, 9), (2, 10), (2, 11)]) (C' := []) (S' := none) Fr_190 (by decide) (fun _ h => h) (Or.inr rfl))))), hG, by rw [ht9]; exact hP, hD⟩⟩, hS.F ht9⟩) hS.2.2 dX2_decode_252
                    · refine lv_aload_n hx hb dX2_decode_203 rfl (lv_at hl 1 rfl) ?_
                      refine lv_iload_n hx hb dX2_decode_204 rfl (lv_at hl 0 rfl) ?_
                      refine lv_iload_n hx hb dX2_decode_205 rfl (lv_at hl 2 rfl) ?_
                      have hFc := gfree hD hS hA
                      refine va_calli (va_runS (As := [.int x1]) (rest := [.int r_2, .ref h0]) ⟨hx, hb, hml, hown, hts⟩ (m_X2_numbersOf_x l g H.size ws_14 (x1) hG ) (va_cwS 1 hts (gd_S kw_686 kw_764 kw_389 kw_763) rfl rfl rfl (by decide +kernel) ⟨Nat.le_of_ble_eq_true rfl, Nat.le_of_ble_eq_true rfl⟩) ⟨gblind, fun U hU hW9 => gmk hU hW9 hP hK hD hex hE hS hFc⟩ rfl rfl hl.1 rfl (lv_room (Nat.le_of_ble_eq_true rfl)) dX2_decode_206 ⟨Nat.le_of_ble_eq_true rfl, Nat.le_of_ble_eq_true rfl⟩) hS (fun q _ h => hFc q h) hFc (fun r_195 u9 t9 H1 locs ht9 hvm9 hw9 hB9 hz9 hk9 hS => ?_)
                      have hP : va_P (gD g) cl0 ws_14 H1 := by rw [← ht9]; exact hB9.1
                      obtain ⟨hw9, xp_196⟩ := hw9
                      have h_r_195 := hw9
                      clear hB9 hz9 hk9 hvm9 ht9 hw9
                      generalize H1 = H at hP hS ⊢
                      obtain ⟨z_197, ez_197⟩ : ∃ y : Int64, (r_195 : Int32).toInt64 = y := ⟨_, rfl⟩
                      refine lv_i2l (v := z_197) hx hb dX2_decode_209 ez_197 ?_
                      have hFc := gfree hD hS hA
                      refine va_callv (va_runV (As := [.int r_2, .long z_197]) (rest := []) ⟨hx, hb, hml, hown, hts⟩ (m_X2_set_y l g H.size ws_14 h0 (r_2) (z_197) hG o_h0) (cwV 2 hts (gd_V kw_684 kw_793 kw_794 kw_389 kw_792) rfl rfl rfl (by decide +kernel) ⟨Nat.le_of_ble_eq_true rfl, Nat.le_of_ble_eq_true rfl⟩) ⟨gblind, va_recv hK hP (ci := 2) (q0 := k_4) rfl hk_4, fun U hU hW9 => gmk hU hW9 hP hK hD hex hE hS hFc⟩ rfl rfl hl.1 rfl (lv_room (Nat.le_of_ble_eq_true rfl)) dX2_decode_210 ⟨Nat.le_of_ble_eq_true rfl, Nat.le_of_ble_eq_true rfl⟩) hS (fun q _ h => hFc q h) hFc (fun  ws_198 t9 H1 locs ht9 hvm9 hw9 hB9 hz9 hk9 hS => ?_)
                      obtain ⟨E_199, Fr_200, hG, hP1, hD1⟩ := hB9
                      have hP : va_P (gD g) cl0 ws_198 H1 := by rw [← ht9]; exact hP1
                      have hD : va_D A ws_198 := hD1.weaken (fun _ _ _ h => hFc _ h)
                      obtain ⟨hw9, xp_203⟩ := hw9
                      clear hP1 hD1 hz9 hk9 hvm9 ht9 hw9
                      generalize H1 = H at hP hS ⊢
                      have aa_204 := a_r7_4
                      have o_h0 := E_199.1 _ _ o_h0
                      refine lv_goto (tgt := 252) hx hb dX2_decode_213 (by decide) ?_
                      refine W.widen (k := 0) (n := 0) (Nat.le_of_ble_eq_true rfl) (Nat.le_of_ble_eq_true rfl) ?_
                      exact W.vret hx hb hr (fun t9 ht9 hW9 => ⟨⟨ws_198, rfl, ⟨trivial, ⟨⟨_, _, xp_203, fun _ f9 e9 n9 c9 s9 q9 => Or.inl ⟨xp_3 _ _ _ _ _ q9, (by rw [← ez_197, xp_196])⟩⟩, (fun f9 e9 n9 c9 s9 q9 hs => (by rw [← xp_3 _ _ _ _ _ q9]; have ea9 : z_197 = (kNum x1).toInt64 := (by rw [← ez_197, xp_196]); rw [← ea9]; exact xp_203))⟩⟩, ⟨(E_7.tr (E_11.tr (E_15.tr E_199))), (gF.tr (gF.mo (F' := [(2, 9), (2, 10), (2, 11)]) (C' := []) (S' := none) Fr_8 (by decide) (fun _ h => h) (Or.inl rfl)) (gF.tr (gF.mo (F' := [(2, 9), (2, 10), (2, 11)]) (C' := []) (S' := none) Fr_12 (by decide) (fun _ h => h) (Or.inl rfl)) (gF.tr (gF.mo (F' := [(2, 9), (2, 10), (2, 11)]) (C' := []) (S' := none) Fr_16 (by decide) (fun _ h => h) (Or.inl rfl)) (gF.mo (F' := [(2, 9), (2, 10), (2, 11)]) (C' := []) (S' := none) Fr_200 (by decide) (fun _ h => h) (Or.inr rfl))))), hG, by rw [ht9]; exact hP, hD⟩⟩, hS.F ht9⟩) hS.2.2 dX2_decode_252
                  · refine lv_aload_n hx hb dX2_decode_177 rfl (lv_at hl 1 rfl) ?_
                    refine lv_iload_n hx hb dX2_decode_178 rfl (lv_at hl 0 rfl) ?_
                    refine lv_iload_n hx hb dX2_decode_179 rfl (lv_at hl 2 rfl) ?_
                    refine lv_aload_n hx hb dX2_decode_180 rfl (lv_at hl 1 rfl) ?_
                    refine lv_iload_n hx hb dX2_decode_181 rfl (lv_at hl 2 rfl) ?_
                    refine lv_iconst (v := 1) hx hb dX2_decode_182 (by decide) ?_
                    refine lv_iadd hx hb dX2_decode_183 ?_
                    refine lv_topi (fun z_205 ez_205 => ?_)
                    have hFc := gfree hD hS hA
                    refine va_calli (va_runV (As := [.int z_205]) (rest := [.int x1, .int r_2, .ref h0]) ⟨hx, hb, hml, hown, hts⟩ (m_X2_u2 l g H.size ws_14 h0 (z_205) hG o_h0) (cwV 1 hts (gd_V kw_685 kw_816 kw_817 kw_389 kw_815) rfl rfl rfl (by decide +kernel) ⟨Nat.le_of_ble_eq_true rfl, Nat.le_of_ble_eq_true rfl⟩) ⟨gblind, va_recv hK hP (ci := 2) (q0 := k_4) rfl hk_4, fun U hU hW9 => gmk hU hW9 hP hK hD hex hE hS hFc⟩ rfl rfl hl.1 rfl (lv_room (Nat.le_of_ble_eq_true rfl)) dX2_decode_184 ⟨Nat.le_of_ble_eq_true rfl, Nat.le_of_ble_eq_true rfl⟩) hS (fun q _ h => hFc q h) hFc (fun r_206 u9 t9 H1 locs ht9 hvm9 hw9 hB9 hz9 hk9 hS => ?_)
                    have hP : va_P (gD g) cl0 ws_14 H1 := by rw [← ht9]; exact hB9.1
                    clear hB9 hz9 hk9 hvm9 ht9 hw9
                    generalize H1 = H at hP hS ⊢
                    obtain ⟨z_207, ez_207⟩ : ∃ y : Int32, (r_206 : Int32).toInt16.toInt32 = y := ⟨_, rfl⟩
                    refine lv_i2s (v := z_207) hx hb dX2_decode_187 ez_207 ?_
                    refine lv_iadd hx hb dX2_decode_188 ?_
                    refine lv_topi (fun z_208 ez_208 => ?_)
                    obtain ⟨z_209, ez_209⟩ : ∃ y : Int64, (z_208 : Int32).toInt64 = y := ⟨_, rfl⟩
                    refine lv_i2l (v := z_209) hx hb dX2_decode_189 ez_209 ?_
                    have hFc := gfree hD hS hA
                    refine va_callv (va_runV (As := [.int r_2, .long z_209]) (rest := []) ⟨hx, hb, hml, hown, hts⟩ (m_X2_set_y l g H.size ws_14 h0 (r_2) (z_209) hG o_h0) (cwV 2 hts (gd_V kw_684 kw_793 kw_794 kw_389 kw_792) rfl rfl rfl (by decide +kernel) ⟨Nat.le_of_ble_eq_true rfl, Nat.le_of_ble_eq_true rfl⟩) ⟨gblind, va_recv hK hP (ci := 2) (q0 := k_4) rfl hk_4, fun U hU hW9 => gmk hU hW9 hP hK hD hex hE hS hFc⟩ rfl rfl hl.1 rfl (lv_room (Nat.le_of_ble_eq_true rfl)) dX2_decode_190 ⟨Nat.le_of_ble_eq_true rfl, Nat.le_of_ble_eq_true rfl⟩) hS (fun q _ h => hFc q h) hFc (fun  ws_210 t9 H1 locs ht9 hvm9 hw9 hB9 hz9 hk9 hS => ?_)
                    obtain ⟨E_211, Fr_212, hG, hP1, hD1⟩ := hB9
                    have hP : va_P (gD g) cl0 ws_210 H1 := by rw [← ht9]; exact hP1
                    have hD : va_D A ws_210 := hD1.weaken (fun _ _ _ h => hFc _ h)
                    obtain ⟨hw9, xp_215⟩ := hw9
                    clear hP1 hD1 hz9 hk9 hvm9 ht9 hw9
                    generalize H1 = H at hP hS ⊢
                    have aa_216 := a_r7_4
                    have o_h0 := E_211.1 _ _ o_h0
                    refine lv_goto (tgt := 252) hx hb dX2_decode_193 (by decide) ?_
                    refine W.widen (k := 0) (n := 0) (Nat.le_of_ble_eq_true rfl) (Nat.le_of_ble_eq_true rfl) ?_
                    exact W.vret hx hb hr (fun t9 ht9 hW9 => ⟨⟨ws_210, rfl, ⟨trivial, ⟨⟨_, _, xp_215, fun h9 => absurd h9 (xp_162 (by have e0 : (0 : Int32).toInt = 0 := (by decide); have q_c_163 := i_ne c_163; have g_r_161 := i_rg r_161; have b_r_161 := i_bit hz_r_161; omega))⟩, (fun f9 e9 n9 c9 s9 q9 hs => absurd (show isS r_2 from (by rw [xp_3 _ _ _ _ _ q9]; exact hs)) (xp_162 (by have e0 : (0 : Int32).toInt = 0 := (by decide); have q_c_163 := i_ne c_163; have g_r_161 := i_rg r_161; have b_r_161 := i_bit hz_r_161; omega)))⟩⟩, ⟨(E_7.tr (E_11.tr (E_15.tr E_211))), (gF.tr (gF.mo (F' := [(2, 9), (2, 10), (2, 11)]) (C' := []) (S' := none) Fr_8 (by decide) (fun _ h => h) (Or.inl rfl)) (gF.tr (gF.mo (F' := [(2, 9), (2, 10), (2, 11)]) (C' := []) (S' := none) Fr_12 (by decide) (fun _ h => h) (Or.inl rfl)) (gF.tr (gF.mo (F' := [(2, 9), (2, 10), (2, 11)]) (C' := []) (S' := none) Fr_16 (by decide) (fun _ h => h) (Or.inl rfl)) (gF.mo (F' := [(2, 9), (2, 10), (2, 11)]) (C' := []) (S' := none) Fr_212 (by decide) (fun _ h => h) (Or.inr rfl))))), hG, by rw [ht9]; exact hP, hD⟩⟩, hS.F ht9⟩) hS.2.2 dX2_decode_252
                · refine lv_aload_n hx hb dX2_decode_149 rfl (lv_at hl 1 rfl) ?_
                  refine lv_sipush (v := 167) hx hb dX2_decode_150 (by decide) ?_
                  refine lv_iload_n hx hb dX2_decode_153 rfl (lv_at hl 2 rfl) ?_
                  obtain ⟨z_217, ez_217⟩ : ∃ y : Int64, (x1 : Int32).toInt64 = y := ⟨_, rfl⟩
                  refine lv_i2l (v := z_217) hx hb dX2_decode_154 ez_217 ?_
                  refine lv_aload_n hx hb dX2_decode_155 rfl (lv_at hl 1 rfl) ?_
                  refine lv_iload_n hx hb dX2_decode_156 rfl (lv_at hl 2 rfl) ?_
                  refine lv_iconst (v := 1) hx hb dX2_decode_157 (by decide) ?_
                  refine lv_iadd hx hb dX2_decode_158 ?_
                  refine lv_topi (fun z_218 ez_218 => ?_)
                  have hFc := gfree hD hS hA
                  refine va_calli (va_runV (As := [.int z_218]) (rest := [.long z_217, .int 167, .ref h0]) ⟨hx, hb, hml, hown, hts⟩ (m_X2_s4_x l g H.size ws_14 h0 (z_218) hG o_h0) (cwV 1 hts (gd_V kw_623 kw_790 kw_791 kw_389 kw_789) rfl rfl rfl (by decide +kernel) ⟨Nat.le_of_ble_eq_true rfl, Nat.le_of_ble_eq_true rfl⟩) ⟨gblind, va_recv hK hP (ci := 2) (q0 := k_4) rfl hk_4, fun U hU hW9 => gmk hU hW9 hP hK hD hex hE hS hFc⟩ rfl rfl hl.1 rfl (lv_room (Nat.le_of_ble_eq_true rfl)) dX2_decode_159 ⟨Nat.le_of_ble_eq_true rfl, Nat.le_of_ble_eq_true rfl⟩) hS (fun q _ h => hFc q h) hFc (fun r_219 u9 t9 H1 locs ht9 hvm9 hw9 hB9 hz9 hk9 hS => ?_)
                  have hP : va_P (gD g) cl0 ws_14 H1 := by rw [← ht9]; exact hB9.1
                  obtain ⟨hw9, xp_220⟩ := hw9
                  clear hB9 hz9 hk9 hvm9 ht9 hw9
                  generalize H1 = H at hP hS ⊢
                  obtain ⟨z_221, ez_221⟩ : ∃ y : Int64, (r_219 : Int32).toInt64 = y := ⟨_, rfl⟩
                  refine lv_i2l (v := z_221) hx hb dX2_decode_162 ez_221 ?_
                  refine lv_ladd hx hb dX2_decode_163 ?_
                  refine lv_topl (fun z_222 ez_222 => ?_)
                  have hFc := gfree hD hS hA
                  refine va_callv (va_runV (As := [.int 167, .long z_222]) (rest := []) ⟨hx, hb, hml, hown, hts⟩ (m_X2_set_y l g H.size ws_14 h0 (167) (z_222) hG o_h0) (cwV 2 hts (gd_V kw_684 kw_793 kw_794 kw_389 kw_792) rfl rfl rfl (by decide +kernel) ⟨Nat.le_of_ble_eq_true rfl, Nat.le_of_ble_eq_true rfl⟩) ⟨gblind, va_recv hK hP (ci := 2) (q0 := k_4) rfl hk_4, fun U hU hW9 => gmk hU hW9 hP hK hD hex hE hS hFc⟩ rfl rfl hl.1 rfl (lv_room (Nat.le_of_ble_eq_true rfl)) dX2_decode_164 ⟨Nat.le_of_ble_eq_true rfl, Nat.le_of_ble_eq_true rfl⟩) hS (fun q _ h => hFc q h) hFc (fun  ws_223 t9 H1 locs ht9 hvm9 hw9 hB9 hz9 hk9 hS => ?_)
                  obtain ⟨E_224, Fr_225, hG, hP1, hD1⟩ := hB9
                  have hP : va_P (gD g) cl0 ws_223 H1 := by rw [← ht9]; exact hP1
                  have hD : va_D A ws_223 := hD1.weaken (fun _ _ _ h => hFc _ h)
                  obtain ⟨hw9, xp_228⟩ := hw9
                  clear hP1 hD1 hz9 hk9 hvm9 ht9 hw9
                  generalize H1 = H at hP hS ⊢
                  have aa_229 := a_r7_4
                  have o_h0 := E_224.1 _ _ o_h0
                  refine lv_goto (tgt := 252) hx hb dX2_decode_167 (by decide) ?_
                  refine W.widen (k := 0) (n := 0) (Nat.le_of_ble_eq_true rfl) (Nat.le_of_ble_eq_true rfl) ?_
                  exact W.vret hx hb hr (fun t9 ht9 hW9 => ⟨⟨ws_223, rfl, ⟨trivial, ⟨⟨_, _, xp_228, fun h9 => absurd h9 (by unfold isS; decide)⟩, (fun f9 e9 n9 c9 s9 q9 hs => absurd (show isS r_2 from (by rw [xp_3 _ _ _ _ _ q9]; exact hs)) (by unfold isS; exact (by have e2 : (2 : Int32).toInt = 2 := (by decide); have e8 : (8 : Int32).toInt = 8 := (by decide); have e9 : (9 : Int32).toInt = 9 := (by decide); have e10 : (10 : Int32).toInt = 10 := (by decide); have e16 : (16 : Int32).toInt = 16 := (by decide); have e17 : (17 : Int32).toInt = 17 := (by decide); have e18 : (18 : Int32).toInt = 18 := (by decide); have e200 : (200 : Int32).toInt = 200 := (by decide); have q_c_17 := i_nlt c_17; have q_c_145 := i_lt c_145; have q_c_146 := i_ne c_146; have q_c_156 := i_ne c_156; have q_c_157 := i_ne c_157; have q_c_158 := i_ne c_158; have q_c_159 := i_ne c_159; have q_c_160 := i_eq c_160; have g_r_2 := i_rg r_2; omega)))⟩⟩, ⟨(E_7.tr (E_11.tr (E_15.tr E_224))), (gF.tr (gF.mo (F' := [(2, 9), (2, 10), (2, 11)]) (C' := []) (S' := none) Fr_8 (by decide) (fun _ h => h) (Or.inl rfl)) (gF.tr (gF.mo (F' := [(2, 9), (2, 10), (2, 11)]) (C' := []) (S' := none) Fr_12 (by decide) (fun _ h => h) (Or.inl rfl)) (gF.tr (gF.mo (F' := [(2, 9), (2, 10), (2, 11)]) (C' := []) (S' := none) Fr_16 (by decide) (fun _ h => h) (Or.inl rfl)) (gF.mo (F' := [(2, 9), (2, 10), (2, 11)]) (C' := []) (S' := none) Fr_225 (by decide) (fun _ h => h) (Or.inr rfl))))), hG, by rw [ht9]; exact hP, hD⟩⟩, hS.F ht9⟩) hS.2.2 dX2_decode_252
              · refine lv_aload_n hx hb dX2_decode_125 rfl (lv_at hl 1 rfl) ?_
                refine lv_bipush (v := 19) hx hb dX2_decode_126 (by decide) ?_
                refine lv_aload_n hx hb dX2_decode_128 rfl (lv_at hl 1 rfl) ?_
                refine lv_iload_n hx hb dX2_decode_129 rfl (lv_at hl 2 rfl) ?_
                refine lv_iconst (v := 1) hx hb dX2_decode_130 (by decide) ?_
                refine lv_iadd hx hb dX2_decode_131 ?_
                refine lv_topi (fun z_230 ez_230 => ?_)
                have hFc := gfree hD hS hA
                refine va_calli (va_runV (As := [.int z_230]) (rest := [.int 19, .ref h0]) ⟨hx, hb, hml, hown, hts⟩ (m_X2_u1_x l g H.size ws_14 h0 (z_230) hG o_h0) (cwV 1 hts (gd_V kw_682 kw_812 kw_813 kw_389 kw_811) rfl rfl rfl (by decide +kernel) ⟨Nat.le_of_ble_eq_true rfl, Nat.le_of_ble_eq_true rfl⟩) ⟨gblind, va_recv hK hP (ci := 2) (q0 := k_4) rfl hk_4, fun U hU hW9 => gmk hU hW9 hP hK hD hex hE hS hFc⟩ rfl rfl hl.1 rfl (lv_room (Nat.le_of_ble_eq_true rfl)) dX2_decode_132 ⟨Nat.le_of_ble_eq_true rfl, Nat.le_of_ble_eq_true rfl⟩) hS (fun q _ h => hFc q h) hFc (fun r_231 u9 t9 H1 locs ht9 hvm9 hw9 hB9 hz9 hk9 hS => ?_)
                have hP : va_P (gD g) cl0 ws_14 H1 := by rw [← ht9]; exact hB9.1
                obtain ⟨hw9, xp_232⟩ := hw9
                clear hB9 hz9 hk9 hvm9 ht9 hw9
                generalize H1 = H at hP hS ⊢
                obtain ⟨z_233, ez_233⟩ : ∃ y : Int64, (r_231 : Int32).toInt64 = y := ⟨_, rfl⟩
                refine lv_i2l (v := z_233) hx hb dX2_decode_135 ez_233 ?_
                have hFc := gfree hD hS hA
                refine va_callv (va_runV (As := [.int 19, .long z_233]) (rest := []) ⟨hx, hb, hml, hown, hts⟩ (m_X2_set_y l g H.size ws_14 h0 (19) (z_233) hG o_h0) (cwV 2 hts (gd_V kw_684 kw_793 kw_794 kw_389 kw_792) rfl rfl rfl (by decide +kernel) ⟨Nat.le_of_ble_eq_true rfl, Nat.le_of_ble_eq_true rfl⟩) ⟨gblind, va_recv hK hP (ci := 2) (q0 := k_4) rfl hk_4, fun U hU hW9 => gmk hU hW9 hP hK hD hex hE hS hFc⟩ rfl rfl hl.1 rfl (lv_room (Nat.le_of_ble_eq_true rfl)) dX2_decode_136 ⟨Nat.le_of_ble_eq_true rfl, Nat.le_of_ble_eq_true rfl⟩) hS (fun q _ h => hFc q h) hFc (fun  ws_234 t9 H1 locs ht9 hvm9 hw9 hB9 hz9 hk9 hS => ?_)
                obtain ⟨E_235, Fr_236, hG, hP1, hD1⟩ := hB9
                have hP : va_P (gD g) cl0 ws_234 H1 := by rw [← ht9]; exact hP1
                have hD : va_D A ws_234 := hD1.weaken (fun _ _ _ h => hFc _ h)
                obtain ⟨hw9, xp_239⟩ := hw9
                clear hP1 hD1 hz9 hk9 hvm9 ht9 hw9
                generalize H1 = H at hP hS ⊢
                have aa_240 := a_r7_4
                have o_h0 := E_235.1 _ _ o_h0
                refine lv_goto (tgt := 252) hx hb dX2_decode_139 (by decide) ?_
                refine W.widen (k := 0) (n := 0) (Nat.le_of_ble_eq_true rfl) (Nat.le_of_ble_eq_true rfl) ?_
                exact W.vret hx hb hr (fun t9 ht9 hW9 => ⟨⟨ws_234, rfl, ⟨trivial, ⟨⟨_, _, xp_239, fun h9 => absurd h9 (by unfold isS; decide)⟩, (fun f9 e9 n9 c9 s9 q9 hs => absurd (show isS r_2 from (by rw [xp_3 _ _ _ _ _ q9]; exact hs)) (by unfold isS; exact (by have e2 : (2 : Int32).toInt = 2 := (by decide); have e8 : (8 : Int32).toInt = 8 := (by decide); have e9 : (9 : Int32).toInt = 9 := (by decide); have e10 : (10 : Int32).toInt = 10 := (by decide); have e16 : (16 : Int32).toInt = 16 := (by decide); have e17 : (17 : Int32).toInt = 17 := (by decide); have e18 : (18 : Int32).toInt = 18 := (by decide); have q_c_17 := i_nlt c_17; have q_c_145 := i_lt c_145; have q_c_146 := i_ne c_146; have q_c_156 := i_ne c_156; have q_c_157 := i_ne c_157; have q_c_158 := i_ne c_158; have q_c_159 := i_eq c_159; have g_r_2 := i_rg r_2; omega)))⟩⟩, ⟨(E_7.tr (E_11.tr (E_15.tr E_235))), (gF.tr (gF.mo (F' := [(2, 9), (2, 10), (2, 11)]) (C' := []) (S' := none) Fr_8 (by decide) (fun _ h => h) (Or.inl rfl)) (gF.tr (gF.mo (F' := [(2, 9), (2, 10), (2, 11)]) (C' := []) (S' := none) Fr_12 (by decide) (fun _ h => h) (Or.inl rfl)) (gF.tr (gF.mo (F' := [(2, 9), (2, 10), (2, 11)]) (C' := []) (S' := none) Fr_16 (by decide) (fun _ h => h) (Or.inl rfl)) (gF.mo (F' := [(2, 9), (2, 10), (2, 11)]) (C' := []) (S' := none) Fr_236 (by decide) (fun _ h => h) (Or.inr rfl))))), hG, by rw [ht9]; exact hP, hD⟩⟩, hS.F ht9⟩) hS.2.2 dX2_decode_252
            · refine lv_aload_n hx hb dX2_decode_101 rfl (lv_at hl 1 rfl) ?_
              refine lv_bipush (v := 17) hx hb dX2_decode_102 (by decide) ?_
              refine lv_aload_n hx hb dX2_decode_104 rfl (lv_at hl 1 rfl) ?_
              refine lv_iload_n hx hb dX2_decode_105 rfl (lv_at hl 2 rfl) ?_
              refine lv_iconst (v := 1) hx hb dX2_decode_106 (by decide) ?_
              refine lv_iadd hx hb dX2_decode_107 ?_
              refine lv_topi (fun z_241 ez_241 => ?_)
              have hFc := gfree hD hS hA
              refine va_calli (va_runV (As := [.int z_241]) (rest := [.int 17, .ref h0]) ⟨hx, hb, hml, hown, hts⟩ (m_X2_u2 l g H.size ws_14 h0 (z_241) hG o_h0) (cwV 1 hts (gd_V kw_685 kw_816 kw_817 kw_389 kw_815) rfl rfl rfl (by decide +kernel) ⟨Nat.le_of_ble_eq_true rfl, Nat.le_of_ble_eq_true rfl⟩) ⟨gblind, va_recv hK hP (ci := 2) (q0 := k_4) rfl hk_4, fun U hU hW9 => gmk hU hW9 hP hK hD hex hE hS hFc⟩ rfl rfl hl.1 rfl (lv_room (Nat.le_of_ble_eq_true rfl)) dX2_decode_108 ⟨Nat.le_of_ble_eq_true rfl, Nat.le_of_ble_eq_true rfl⟩) hS (fun q _ h => hFc q h) hFc (fun r_242 u9 t9 H1 locs ht9 hvm9 hw9 hB9 hz9 hk9 hS => ?_)
              have hP : va_P (gD g) cl0 ws_14 H1 := by rw [← ht9]; exact hB9.1
              clear hB9 hz9 hk9 hvm9 ht9 hw9
              generalize H1 = H at hP hS ⊢
              obtain ⟨z_243, ez_243⟩ : ∃ y : Int32, (r_242 : Int32).toInt16.toInt32 = y := ⟨_, rfl⟩
              refine lv_i2s (v := z_243) hx hb dX2_decode_111 ez_243 ?_
              obtain ⟨z_244, ez_244⟩ : ∃ y : Int64, (z_243 : Int32).toInt64 = y := ⟨_, rfl⟩
              refine lv_i2l (v := z_244) hx hb dX2_decode_112 ez_244 ?_
              have hFc := gfree hD hS hA
              refine va_callv (va_runV (As := [.int 17, .long z_244]) (rest := []) ⟨hx, hb, hml, hown, hts⟩ (m_X2_set_y l g H.size ws_14 h0 (17) (z_244) hG o_h0) (cwV 2 hts (gd_V kw_684 kw_793 kw_794 kw_389 kw_792) rfl rfl rfl (by decide +kernel) ⟨Nat.le_of_ble_eq_true rfl, Nat.le_of_ble_eq_true rfl⟩) ⟨gblind, va_recv hK hP (ci := 2) (q0 := k_4) rfl hk_4, fun U hU hW9 => gmk hU hW9 hP hK hD hex hE hS hFc⟩ rfl rfl hl.1 rfl (lv_room (Nat.le_of_ble_eq_true rfl)) dX2_decode_113 ⟨Nat.le_of_ble_eq_true rfl, Nat.le_of_ble_eq_true rfl⟩) hS (fun q _ h => hFc q h) hFc (fun  ws_245 t9 H1 locs ht9 hvm9 hw9 hB9 hz9 hk9 hS => ?_)
              obtain ⟨E_246, Fr_247, hG, hP1, hD1⟩ := hB9
              have hP : va_P (gD g) cl0 ws_245 H1 := by rw [← ht9]; exact hP1
              have hD : va_D A ws_245 := hD1.weaken (fun _ _ _ h => hFc _ h)
              obtain ⟨hw9, xp_250⟩ := hw9
              clear hP1 hD1 hz9 hk9 hvm9 ht9 hw9
              generalize H1 = H at hP hS ⊢
              have aa_251 := a_r7_4
              have o_h0 := E_246.1 _ _ o_h0
              refine lv_goto (tgt := 252) hx hb dX2_decode_116 (by decide) ?_
              refine W.widen (k := 0) (n := 0) (Nat.le_of_ble_eq_true rfl) (Nat.le_of_ble_eq_true rfl) ?_
              exact W.vret hx hb hr (fun t9 ht9 hW9 => ⟨⟨ws_245, rfl, ⟨trivial, ⟨⟨_, _, xp_250, fun h9 => absurd h9 (by unfold isS; decide)⟩, (fun f9 e9 n9 c9 s9 q9 hs => absurd (show isS r_2 from (by rw [xp_3 _ _ _ _ _ q9]; exact hs)) (by unfold isS; exact (by have e2 : (2 : Int32).toInt = 2 := (by decide); have e8 : (8 : Int32).toInt = 8 := (by decide); have e9 : (9 : Int32).toInt = 9 := (by decide); have e10 : (10 : Int32).toInt = 10 := (by decide); have e16 : (16 : Int32).toInt = 16 := (by decide); have e17 : (17 : Int32).toInt = 17 := (by decide); have q_c_17 := i_nlt c_17; have q_c_145 := i_lt c_145; have q_c_146 := i_ne c_146; have q_c_156 := i_ne c_156; have q_c_157 := i_ne c_157; have q_c_158 := i_eq c_158; have g_r_2 := i_rg r_2; omega)))⟩⟩, ⟨(E_7.tr (E_11.tr (E_15.tr E_246))), (gF.tr (gF.mo (F' := [(2, 9), (2, 10), (2, 11)]) (C' := []) (S' := none) Fr_8 (by decide) (fun _ h => h) (Or.inl rfl)) (gF.tr (gF.mo (F' := [(2, 9), (2, 10), (2, 11)]) (C' := []) (S' := none) Fr_12 (by decide) (fun _ h => h) (Or.inl rfl)) (gF.tr (gF.mo (F' := [(2, 9), (2, 10), (2, 11)]) (C' := []) (S' := none) Fr_16 (by decide) (fun _ h => h) (Or.inl rfl)) (gF.mo (F' := [(2, 9), (2, 10), (2, 11)]) (C' := []) (S' := none) Fr_247 (by decide) (fun _ h => h) (Or.inr rfl))))), hG, by rw [ht9]; exact hP, hD⟩⟩, hS.F ht9⟩) hS.2.2 dX2_decode_252
          · refine lv_aload_n hx hb dX2_decode_77 rfl (lv_at hl 1 rfl) ?_
            refine lv_bipush (v := 17) hx hb dX2_decode_78 (by decide) ?_
            refine lv_aload_n hx hb dX2_decode_80 rfl (lv_at hl 1 rfl) ?_
            refine lv_iload_n hx hb dX2_decode_81 rfl (lv_at hl 2 rfl) ?_
            refine lv_iconst (v := 1) hx hb dX2_decode_82 (by decide) ?_
            refine lv_iadd hx hb dX2_decode_83 ?_
            refine lv_topi (fun z_252 ez_252 => ?_)
            have hFc := gfree hD hS hA
            refine va_calli (va_runV (As := [.int z_252]) (rest := [.int 17, .ref h0]) ⟨hx, hb, hml, hown, hts⟩ (m_X2_u1_x l g H.size ws_14 h0 (z_252) hG o_h0) (cwV 1 hts (gd_V kw_682 kw_812 kw_813 kw_389 kw_811) rfl rfl rfl (by decide +kernel) ⟨Nat.le_of_ble_eq_true rfl, Nat.le_of_ble_eq_true rfl⟩) ⟨gblind, va_recv hK hP (ci := 2) (q0 := k_4) rfl hk_4, fun U hU hW9 => gmk hU hW9 hP hK hD hex hE hS hFc⟩ rfl rfl hl.1 rfl (lv_room (Nat.le_of_ble_eq_true rfl)) dX2_decode_84 ⟨Nat.le_of_ble_eq_true rfl, Nat.le_of_ble_eq_true rfl⟩) hS (fun q _ h => hFc q h) hFc (fun r_253 u9 t9 H1 locs ht9 hvm9 hw9 hB9 hz9 hk9 hS => ?_)
            have hP : va_P (gD g) cl0 ws_14 H1 := by rw [← ht9]; exact hB9.1
            obtain ⟨hw9, xp_254⟩ := hw9
            clear hB9 hz9 hk9 hvm9 ht9 hw9
            generalize H1 = H at hP hS ⊢
            obtain ⟨z_255, ez_255⟩ : ∃ y : Int32, (r_253 : Int32).toInt8.toInt32 = y := ⟨_, rfl⟩
            refine lv_i2b (v := z_255) hx hb dX2_decode_87 ez_255 ?_
            obtain ⟨z_256, ez_256⟩ : ∃ y : Int64, (z_255 : Int32).toInt64 = y := ⟨_, rfl⟩
            refine lv_i2l (v := z_256) hx hb dX2_decode_88 ez_256 ?_
            have hFc := gfree hD hS hA
            refine va_callv (va_runV (As := [.int 17, .long z_256]) (rest := []) ⟨hx, hb, hml, hown, hts⟩ (m_X2_set_y l g H.size ws_14 h0 (17) (z_256) hG o_h0) (cwV 2 hts (gd_V kw_684 kw_793 kw_794 kw_389 kw_792) rfl rfl rfl (by decide +kernel) ⟨Nat.le_of_ble_eq_true rfl, Nat.le_of_ble_eq_true rfl⟩) ⟨gblind, va_recv hK hP (ci := 2) (q0 := k_4) rfl hk_4, fun U hU hW9 => gmk hU hW9 hP hK hD hex hE hS hFc⟩ rfl rfl hl.1 rfl (lv_room (Nat.le_of_ble_eq_true rfl)) dX2_decode_89 ⟨Nat.le_of_ble_eq_true rfl, Nat.le_of_ble_eq_true rfl⟩) hS (fun q _ h => hFc q h) hFc (fun  ws_257 t9 H1 locs ht9 hvm9 hw9 hB9 hz9 hk9 hS => ?_)
            obtain ⟨E_258, Fr_259, hG, hP1, hD1⟩ := hB9
            have hP : va_P (gD g) cl0 ws_257 H1 := by rw [← ht9]; exact hP1
            have hD : va_D A ws_257 := hD1.weaken (fun _ _ _ h => hFc _ h)
            obtain ⟨hw9, xp_262⟩ := hw9
            clear hP1 hD1 hz9 hk9 hvm9 ht9 hw9
            generalize H1 = H at hP hS ⊢
            have aa_263 := a_r7_4
            have o_h0 := E_258.1 _ _ o_h0
            refine lv_goto (tgt := 252) hx hb dX2_decode_92 (by decide) ?_
            refine W.widen (k := 0) (n := 0) (Nat.le_of_ble_eq_true rfl) (Nat.le_of_ble_eq_true rfl) ?_
            exact W.vret hx hb hr (fun t9 ht9 hW9 => ⟨⟨ws_257, rfl, ⟨trivial, ⟨⟨_, _, xp_262, fun h9 => absurd h9 (by unfold isS; decide)⟩, (fun f9 e9 n9 c9 s9 q9 hs => absurd (show isS r_2 from (by rw [xp_3 _ _ _ _ _ q9]; exact hs)) (by unfold isS; exact (by have e2 : (2 : Int32).toInt = 2 := (by decide); have e8 : (8 : Int32).toInt = 8 := (by decide); have e9 : (9 : Int32).toInt = 9 := (by decide); have e10 : (10 : Int32).toInt = 10 := (by decide); have e16 : (16 : Int32).toInt = 16 := (by decide); have q_c_17 := i_nlt c_17; have q_c_145 := i_lt c_145; have q_c_146 := i_ne c_146; have q_c_156 := i_ne c_156; have q_c_157 := i_eq c_157; have g_r_2 := i_rg r_2; omega)))⟩⟩, ⟨(E_7.tr (E_11.tr (E_15.tr E_258))), (gF.tr (gF.mo (F' := [(2, 9), (2, 10), (2, 11)]) (C' := []) (S' := none) Fr_8 (by decide) (fun _ h => h) (Or.inl rfl)) (gF.tr (gF.mo (F' := [(2, 9), (2, 10), (2, 11)]) (C' := []) (S' := none) Fr_12 (by decide) (fun _ h => h) (Or.inl rfl)) (gF.tr (gF.mo (F' := [(2, 9), (2, 10), (2, 11)]) (C' := []) (S' := none) Fr_16 (by decide) (fun _ h => h) (Or.inl rfl)) (gF.mo (F' := [(2, 9), (2, 10), (2, 11)]) (C' := []) (S' := none) Fr_259 (by decide) (fun _ h => h) (Or.inr rfl))))), hG, by rw [ht9]; exact hP, hD⟩⟩, hS.F ht9⟩) hS.2.2 dX2_decode_252
        · refine lv_aload_n hx hb dX2_decode_57 rfl (lv_at hl 1 rfl) ?_
          refine lv_bipush (v := 9) hx hb dX2_decode_58 (by decide) ?_
          refine lv_iload_n hx hb dX2_decode_60 rfl (lv_at hl 0 rfl) ?_
          refine lv_bipush (v := 9) hx hb dX2_decode_61 (by decide) ?_
          refine lv_isub hx hb dX2_decode_63 ?_
          refine lv_topi (fun z_264 ez_264 => ?_)
          obtain ⟨z_265, ez_265⟩ : ∃ y : Int64, (z_264 : Int32).toInt64 = y := ⟨_, rfl⟩
          refine lv_i2l (v := z_265) hx hb dX2_decode_64 ez_265 ?_
          have hFc := gfree hD hS hA
          refine va_callv (va_runV (As := [.int 9, .long z_265]) (rest := []) ⟨hx, hb, hml, hown, hts⟩ (m_X2_set_y l g H.size ws_14 h0 (9) (z_265) hG o_h0) (cwV 2 hts (gd_V kw_684 kw_793 kw_794 kw_389 kw_792) rfl rfl rfl (by decide +kernel) ⟨Nat.le_of_ble_eq_true rfl, Nat.le_of_ble_eq_true rfl⟩) ⟨gblind, va_recv hK hP (ci := 2) (q0 := k_4) rfl hk_4, fun U hU hW9 => gmk hU hW9 hP hK hD hex hE hS hFc⟩ rfl rfl hl.1 rfl (lv_room (Nat.le_of_ble_eq_true rfl)) dX2_decode_65 ⟨Nat.le_of_ble_eq_true rfl, Nat.le_of_ble_eq_true rfl⟩) hS (fun q _ h => hFc q h) hFc (fun  ws_266 t9 H1 locs ht9 hvm9 hw9 hB9 hz9 hk9 hS => ?_)
          obtain ⟨E_267, Fr_268, hG, hP1, hD1⟩ := hB9
          have hP : va_P (gD g) cl0 ws_266 H1 := by rw [← ht9]; exact hP1
          have hD : va_D A ws_266 := hD1.weaken (fun _ _ _ h => hFc _ h)
          obtain ⟨hw9, xp_271⟩ := hw9
          clear hP1 hD1 hz9 hk9 hvm9 ht9 hw9
          generalize H1 = H at hP hS ⊢
          have aa_272 := a_r7_4
          have o_h0 := E_267.1 _ _ o_h0
          refine lv_goto (tgt := 252) hx hb dX2_decode_68 (by decide) ?_
          refine W.widen (k := 0) (n := 0) (Nat.le_of_ble_eq_true rfl) (Nat.le_of_ble_eq_true rfl) ?_
          exact W.vret hx hb hr (fun t9 ht9 hW9 => ⟨⟨ws_266, rfl, ⟨trivial, ⟨⟨_, _, xp_271, fun h9 => absurd h9 (by unfold isS; decide)⟩, (fun f9 e9 n9 c9 s9 q9 hs => absurd (show isS r_2 from (by rw [xp_3 _ _ _ _ _ q9]; exact hs)) (by unfold isS; exact (by have e2 : (2 : Int32).toInt = 2 := (by decide); have e8 : (8 : Int32).toInt = 8 := (by decide); have e9 : (9 : Int32).toInt = 9 := (by decide); have e10 : (10 : Int32).toInt = 10 := (by decide); have q_c_17 := i_nlt c_17; have q_c_145 := i_lt c_145; have q_c_146 := i_ne c_146; have q_c_156 := i_eq c_156; obtain ⟨u_z_264, q_z_264⟩ := i_sub ez_264; have q_z_265 := l_of ez_265; have g_r_2 := i_rg r_2; have g_z_264 := i_rg z_264; omega)))⟩⟩, ⟨(E_7.tr (E_11.tr (E_15.tr E_267))), (gF.tr (gF.mo (F' := [(2, 9), (2, 10), (2, 11)]) (C' := []) (S' := none) Fr_8 (by decide) (fun _ h => h) (Or.inl rfl)) (gF.tr (gF.mo (F' := [(2, 9), (2, 10), (2, 11)]) (C' := []) (S' := none) Fr_12 (by decide) (fun _ h => h) (Or.inl rfl)) (gF.tr (gF.mo (F' := [(2, 9), (2, 10), (2, 11)]) (C' := []) (S' := none) Fr_16 (by decide) (fun _ h => h) (Or.inl rfl)) (gF.mo (F' := [(2, 9), (2, 10), (2, 11)]) (C' := []) (S' := none) Fr_268 (by decide) (fun _ h => h) (Or.inr rfl))))), hG, by rw [ht9]; exact hP, hD⟩⟩, hS.F ht9⟩) hS.2.2 dX2_decode_252
    · refine lv_aload_n hx hb dX2_decode_32 rfl (lv_at hl 1 rfl) ?_
      refine lv_bipush (v := 17) hx hb dX2_decode_33 (by decide) ?_
      refine lv_iload_n hx hb dX2_decode_35 rfl (lv_at hl 0 rfl) ?_
      refine lv_iconst (v := 3) hx hb dX2_decode_36 (by decide) ?_
      refine lv_isub hx hb dX2_decode_37 ?_
      refine lv_topi (fun z_273 ez_273 => ?_)
      obtain ⟨z_274, ez_274⟩ : ∃ y : Int64, (z_273 : Int32).toInt64 = y := ⟨_, rfl⟩
      refine lv_i2l (v := z_274) hx hb dX2_decode_38 ez_274 ?_
      have hFc := gfree hD hS hA
      refine va_callv (va_runV (As := [.int 17, .long z_274]) (rest := []) ⟨hx, hb, hml, hown, hts⟩ (m_X2_set_y l g H.size ws_14 h0 (17) (z_274) hG o_h0) (cwV 2 hts (gd_V kw_684 kw_793 kw_794 kw_389 kw_792) rfl rfl rfl (by decide +kernel) ⟨Nat.le_of_ble_eq_true rfl, Nat.le_of_ble_eq_true rfl⟩) ⟨gblind, va_recv hK hP (ci := 2) (q0 := k_4) rfl hk_4, fun U hU hW9 => gmk hU hW9 hP hK hD hex hE hS hFc⟩ rfl rfl hl.1 rfl (lv_room (Nat.le_of_ble_eq_true rfl)) dX2_decode_39 ⟨Nat.le_of_ble_eq_true rfl, Nat.le_of_ble_eq_true rfl⟩) hS (fun q _ h => hFc q h) hFc (fun  ws_275 t9 H1 locs ht9 hvm9 hw9 hB9 hz9 hk9 hS => ?_)
      obtain ⟨E_276, Fr_277, hG, hP1, hD1⟩ := hB9
      have hP : va_P (gD g) cl0 ws_275 H1 := by rw [← ht9]; exact hP1
      have hD : va_D A ws_275 := hD1.weaken (fun _ _ _ h => hFc _ h)
      obtain ⟨hw9, xp_280⟩ := hw9
      clear hP1 hD1 hz9 hk9 hvm9 ht9 hw9
      generalize H1 = H at hP hS ⊢
      have aa_281 := a_r7_4
      have o_h0 := E_276.1 _ _ o_h0
      refine lv_goto (tgt := 252) hx hb dX2_decode_42 (by decide) ?_
      refine W.widen (k := 0) (n := 0) (Nat.le_of_ble_eq_true rfl) (Nat.le_of_ble_eq_true rfl) ?_
      exact W.vret hx hb hr (fun t9 ht9 hW9 => ⟨⟨ws_275, rfl, ⟨trivial, ⟨⟨_, _, xp_280, fun h9 => absurd h9 (by unfold isS; decide)⟩, (fun f9 e9 n9 c9 s9 q9 hs => absurd (show isS r_2 from (by rw [xp_3 _ _ _ _ _ q9]; exact hs)) (by unfold isS; exact (by have e2 : (2 : Int32).toInt = 2 := (by decide); have e3 : (3 : Int32).toInt = 3 := (by decide); have e8 : (8 : Int32).toInt = 8 := (by decide); have q_c_17 := i_nlt c_17; have q_c_145 := i_nlt c_145; obtain ⟨u_z_273, q_z_273⟩ := i_sub ez_273; have q_z_274 := l_of ez_274; have g_r_2 := i_rg r_2; have g_z_273 := i_rg z_273; omega)))⟩⟩, ⟨(E_7.tr (E_11.tr (E_15.tr E_276))), (gF.tr (gF.mo (F' := [(2, 9), (2, 10), (2, 11)]) (C' := []) (S' := none) Fr_8 (by decide) (fun _ h => h) (Or.inl rfl)) (gF.tr (gF.mo (F' := [(2, 9), (2, 10), (2, 11)]) (C' := []) (S' := none) Fr_12 (by decide) (fun _ h => h) (Or.inl rfl)) (gF.tr (gF.mo (F' := [(2, 9), (2, 10), (2, 11)]) (C' := []) (S' := none) Fr_16 (by decide) (fun _ h => h) (Or.inl rfl)) (gF.mo (F' := [(2, 9), (2, 10), (2, 11)]) (C' := []) (S' := none) Fr_277 (by decide) (fun _ h => h) (Or.inr rfl))))), hG, by rw [ht9]; exact hP, hD⟩⟩, hS.F ht9⟩) hS.2.2 dX2_decode_252
