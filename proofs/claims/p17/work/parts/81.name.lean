set_option maxHeartbeats 1000000 in
set_option maxRecDepth 100000 in
theorem m_X11_unitByte_x (l : Launch) (g : Gm) (sz : Nat) (ws : va_W) (h0 : Nat) (x1 : Int32) (hG : Good g ws) (o_h0 : gC ws h0 10) (nn_h0_7 : gN ws h0 7) : Met l yX11_unitByte (wt yX11_unitByte cX11_unitByte 2 (some .int)) ({ frames := 0, cells := 0, slots := 0, locals := 0 }) (va_Pc [.ref h0, .int x1] (st_G g sz ws)) (va_Qi (fun (r : Int32) (u9 : Unit) => (True) ∧ (∀ (f : Nat → Int32) (n : Nat), vu ws h0 f n → r = jB f n x1)) (gQ0 g (va_A ws sz) ws) (va_A ws sz)) (0) (0) (va_A ws sz) := by
  refine Met.ofW (cc := cX11_unitByte) (maxL := 2) (ret := (some .int)) (by decide) rfl ?_
  intro p e s m args below meth c s₁ B hml hv
  obtain ⟨rfl, hsz, hP, hK, hD0, hex, hE⟩ := hv
  have hx := B.exec
  have hb := B.bytes
  have hr := B.returns
  have hts0 := atoms_spec (ws := wt yX11_unitByte cX11_unitByte 2 (some .int)) B.pre
  have hts : ∀ w ∈ tb, w.before _ s = true := fun w h => hts0 w (List.mem_cons_of_mem _ h)
  have hown : s.vm.findClass RX11 = some m.cls := findClass_of_methodNamed B.named
  subst hsz
  have hD := hD0.self (sz := s.heap.size)
  generalize hAe : va_A ws s.heap.size = A at hD hE ⊢
  have hA : ∀ q : Nat, s.heap.size ≤ q → A q := fun q h => by rw [← hAe]; exact Or.inr h
  have hS : va_S A s.heap s.heap [] := va_S.rf
  have hl := lv_entry ([.ref h0, .int x1]) (n := 2) (Nat.le_of_ble_eq_true rfl)
  rw [lg_entry_eq]
  generalize (lg_sl ([.ref h0, .int x1]) ++ List.replicate (2 - (lg_sl ([.ref h0, .int x1])).length) Slot.unset).toArray = ls at hl ⊢
  have hl : lv_has ls 2 [(0, .ref h0), (1, .int x1)] := hl
  obtain ⟨k_1, fs9, hk_1⟩ := gC_of o_h0
  obtain ⟨r0_1, r1_1, r2_1, r3_1, n3_1, r4_1, n4_1, c5_1, c6_1, v7_1, c8_1, c9_1, r10_1, n10_1, r11_1, n11_1, r12_1, n12_1, r13_1, n13_1, r14_1, v15_1, r16_1, n16_1, r17_1, n17_1, rfl, o_r0_1, o_r1_1, o_r2_1, a_r3_1, f4_1, a_r4_1, f6_1, hz_c6_1, o_v7_1, a_r10_1, f10_1, a_r11_1, f12_1, a_r12_1, f14_1, a_r13_1, f16_1, o_r14_1, o_v15_1, a_r16_1, f20_1, a_r17_1, f22_1, f23_1, f24_1, f25_1, f26_1, f27_1, f28_1, -⟩ := (hG.1 _ _ _ _ hk_1).hX11 rfl
  obtain ⟨b_2, hn9⟩ := nn_h0_7 _ _ _ hk_1
  have hn9 := fe_qr hn9
  subst hn9
  have o_b_2 := o_v7_1 _ rfl
  refine lv_iload_n hx hb dX11_unitByte_0 rfl (lv_at hl 1 rfl) ?_
  refine lv_if_lt (tgt := 16) hx hb dX11_unitByte_1 (by decide) (fun c_3 => ?_) (fun c_3 => ?_)
  · refine lv_iconst (v := 0) hx hb dX11_unitByte_16 (by decide) ?_
    refine lv_goto (tgt := 33) hx hb dX11_unitByte_17 (by decide) ?_
    refine W.widen (k := 0) (n := 0) (Nat.le_of_ble_eq_true rfl) (Nat.le_of_ble_eq_true rfl) ?_
    obtain ⟨k_4, fs9, hk_4⟩ := gC_of o_b_2
    obtain ⟨r0_4, n0_4, c1_4, c2_4, c3_4, c4_4, r5_4, n5_4, r6_4, n6_4, r7_4, n7_4, c8_4, r9_4, n9_4, r10_4, n10_4, r11_4, n11_4, r12_4, n12_4, r13_4, n13_4, c14_4, c15_4, c16_4, c17_4, rfl, a_r0_4, f1_4, a_r5_4, f3_4, a_r6_4, f5_4, a_r7_4, f7_4, a_r9_4, f9_4, a_r10_4, f11_4, a_r11_4, f13_4, a_r12_4, f15_4, a_r13_4, f17_4, hz_c15_4, f19_4, f20_4, f21_4, f22_4, f23_4, f24_4, f25_4, f26_4, f27_4, f28_4, -⟩ := (hG.1 _ _ _ _ hk_4).hX10 rfl
    exact W.iret (v := 0) hx hb hr (fun t9 ht9 hW9 => ⟨⟨_, (), rfl, ⟨trivial, (fun f9 n9 q9 => by rw [vu_n hD hk_1 rfl hk_4 rfl a_r0_4 q9]; unfold jB; rw [if_pos (by have e0 : (0 : Int32).toInt = 0 := (by decide); have q_c_3 := i_lt c_3; have q_f1_4 := f1_4; have g_x1 := i_rg x1; omega)])⟩, ⟨by rw [ht9]; exact hP, hD⟩⟩, hS.F ht9⟩) hS.2.2 dX11_unitByte_33
  · refine lv_iload_n hx hb dX11_unitByte_4 rfl (lv_at hl 1 rfl) ?_
    refine lv_aload_n hx hb dX11_unitByte_5 rfl (lv_at hl 0 rfl) ?_
    refine va_get (D := gD g) (ci := 10) (v := .ref b_2) (C := RX11) (T := TX11) (N := 18) hx hb hts inX11 hown hK hP k_1 hk_1 rfl 7 (by decide) (hts _ kw_86) (fun _ h9 => h9) rfl dX11_unitByte_6 ?_
    obtain ⟨k_5, fs9, hk_5⟩ := gC_of o_b_2
    obtain ⟨r0_5, n0_5, c1_5, c2_5, c3_5, c4_5, r5_5, n5_5, r6_5, n6_5, r7_5, n7_5, c8_5, r9_5, n9_5, r10_5, n10_5, r11_5, n11_5, r12_5, n12_5, r13_5, n13_5, c14_5, c15_5, c16_5, c17_5, rfl, a_r0_5, f1_5, a_r5_5, f3_5, a_r6_5, f5_5, a_r7_5, f7_5, a_r9_5, f9_5, a_r10_5, f11_5, a_r11_5, f13_5, a_r12_5, f15_5, a_r13_5, f17_5, hz_c15_5, f19_5, f20_5, f21_5, f22_5, f23_5, f24_5, f25_5, f26_5, f27_5, f28_5, -⟩ := (hG.1 _ _ _ _ hk_5).hX10 rfl
    refine va_get (D := gD g) (ci := 9) (v := .ref r0_5) (C := RX10) (T := TX10) (N := 18) hx hb hts inX10 hown hK hP k_5 hk_5 rfl 0 (by decide) (hts _ kw_273) (fun _ h9 => h9) rfl dX11_unitByte_9 ?_
    obtain ⟨k_6, f_6, hk_6⟩ := gI_of a_r0_5
    obtain ⟨z_7, ez_7⟩ : ∃ z : Int32, Int32.ofNat n0_5 = z := ⟨_, rfl⟩
    refine va_alen (v := z_7) hx hb hK hP k_6 0 hk_6 rfl ez_7 dX11_unitByte_12 ?_
    refine lv_icmp_lt (tgt := 20) hx hb dX11_unitByte_13 (by decide) (fun c_8 => ?_) (fun c_8 => ?_)
    · refine lv_aload_n hx hb dX11_unitByte_20 rfl (lv_at hl 0 rfl) ?_
      refine va_get (D := gD g) (ci := 10) (v := .ref b_2) (C := RX11) (T := TX11) (N := 18) hx hb hts inX11 hown hK hP k_1 hk_1 rfl 7 (by decide) (hts _ kw_86) (fun _ h9 => h9) rfl dX11_unitByte_21 ?_
      refine va_get (D := gD g) (ci := 9) (v := .ref r0_5) (C := RX10) (T := TX10) (N := 18) hx hb hts inX10 hown hK hP k_5 hk_5 rfl 0 (by decide) (hts _ kw_273) (fun _ h9 => h9) rfl dX11_unitByte_24 ?_
      refine lv_iload_n hx hb dX11_unitByte_27 rfl (lv_at hl 1 rfl) ?_
      refine va_bald hx hb hK hP k_6 0 hk_6 rfl (i_in2 (by have e0 : (0 : Int32).toInt = 0 := (by decide); have q_c_3 := i_nlt c_3; have q_f1_5 := f1_5; have q_z_7 := i_len ez_7 f1_5; have q_c_8 := i_lt c_8; have g_x1 := i_rg x1; have g_z_7 := i_rg z_7; omega)) dX11_unitByte_28 ?_
      refine lv_topi (fun z_9 ez_9 => ?_)
      refine lv_sipush (v := 255) hx hb dX11_unitByte_29 (by decide) ?_
      refine lv_iand hx hb dX11_unitByte_32 ?_
      refine lv_topi (fun z_10 ez_10 => ?_)
      refine W.widen (k := 0) (n := 0) (Nat.le_of_ble_eq_true rfl) (Nat.le_of_ble_eq_true rfl) ?_
      exact W.iret (v := z_10) hx hb hr (fun t9 ht9 hW9 => ⟨⟨_, (), rfl, ⟨trivial, (fun f9 n9 q9 => by obtain ⟨h0, h1⟩ := vu_un hD hk_1 rfl hk_5 rfl hk_6 q9; rw [h0, h1]; unfold jB; rw [if_neg (by have e0 : (0 : Int32).toInt = 0 := (by decide); have q_c_3 := i_nlt c_3; have q_f1_5 := f1_5; have q_z_7 := i_len ez_7 f1_5; have q_c_8 := i_lt c_8; have g_x1 := i_rg x1; have g_z_7 := i_rg z_7; omega)]; simp only [← ez_9, ← ez_10])⟩, ⟨by rw [ht9]; exact hP, hD⟩⟩, hS.F ht9⟩) hS.2.2 dX11_unitByte_33
    · refine lv_iconst (v := 0) hx hb dX11_unitByte_16 (by decide) ?_
      refine lv_goto (tgt := 33) hx hb dX11_unitByte_17 (by decide) ?_
      refine W.widen (k := 0) (n := 0) (Nat.le_of_ble_eq_true rfl) (Nat.le_of_ble_eq_true rfl) ?_
      exact W.iret (v := 0) hx hb hr (fun t9 ht9 hW9 => ⟨⟨_, (), rfl, ⟨trivial, (fun f9 n9 q9 => by rw [vu_n hD hk_1 rfl hk_5 rfl a_r0_5 q9]; unfold jB; rw [if_pos (by have e0 : (0 : Int32).toInt = 0 := (by decide); have q_c_3 := i_nlt c_3; have q_f1_5 := f1_5; have q_z_7 := i_len ez_7 f1_5; have q_c_8 := i_nlt c_8; have g_x1 := i_rg x1; have g_z_7 := i_rg z_7; omega)])⟩, ⟨by rw [ht9]; exact hP, hD⟩⟩, hS.F ht9⟩) hS.2.2 dX11_unitByte_33
set_option maxHeartbeats 1000000 in
set_option maxRecDepth 100000 in
theorem m_X11_nameEntry (l : Launch) (g : Gm) (H0 : Heap) (ws : va_W) (h0 : Nat) (x1 : Int32) (wb : Int) (wc : Int) (hG : Good g ws) (o_h0 : gC ws h0 10) (nn_h0_7 : gN ws h0 7) (tk0 : enP g ws h0) (tk1 : nlP ws h0 x1) (tk2 : wcP ws h0 0 wb wc) (pwc : 0 ≤ wb ∧ 0 ≤ wc ∧ (wb) ≤ 131072 ∧ (103) ≤ 131072) : Met l yX11_nameEntry (wt yX11_nameEntry cX11_nameEntry 4 (some .int)) ({ frames := 4, cells := PC ws + (0), slots := PS ws + (0), locals := 106 }) (va_Pc [.ref h0, .int x1] (st_H g H0 ws)) (va_Qi (fun (r : Int32) (u9 : va_W) => (True) ∧ (enP g u9 h0) ∧ (wcP u9 h0 0 (wb) (103))) (gQ2 g [(0, 0), (0, 1), (10, 5), (10, 6)] [(0, 0), (6, 0), (10, 3), (10, 4)] none (va_A ws H0.size) ws H0 (0) (0)) (va_A ws H0.size)) (PC ws + (0)) (PS ws + (0)) (va_A ws H0.size) := by
  refine Met.ofW (cc := cX11_nameEntry) (maxL := 4) (ret := (some .int)) (by decide) rfl ?_
  intro p e s m args below meth c s₁ B hml hv
  obtain ⟨rfl, hH0, hsz, hP, hK, hD0, hex, hE⟩ := hv
  have hx := B.exec
  have hb := B.bytes
  have hr := B.returns
  have hts0 := atoms_spec (ws := wt yX11_nameEntry cX11_nameEntry 4 (some .int)) B.pre
  have hts : ∀ w ∈ tb, w.before _ s = true := fun w h => hts0 w (List.mem_cons_of_mem _ h)
  have hown : s.vm.findClass RX11 = some m.cls := findClass_of_methodNamed B.named
  subst hH0
  have hD := hD0.self (sz := s.heap.size)
  generalize hAe : va_A ws s.heap.size = A at hD hE ⊢
  have hA : ∀ q : Nat, s.heap.size ≤ q → A q := fun q h => by rw [← hAe]; exact Or.inr h
  have hS : va_S A s.heap s.heap [] := va_S.rf
  have hl := lv_entry ([.ref h0, .int x1]) (n := 4) (Nat.le_of_ble_eq_true rfl)
  rw [lg_entry_eq]
  generalize (lg_sl ([.ref h0, .int x1]) ++ List.replicate (4 - (lg_sl ([.ref h0, .int x1])).length) Slot.unset).toArray = ls at hl ⊢
  have hl : lv_has ls 4 [(0, .ref h0), (1, .int x1)] := hl
  obtain ⟨k_1, fs9, hk_1⟩ := gC_of o_h0
  obtain ⟨r0_1, r1_1, r2_1, r3_1, n3_1, r4_1, n4_1, c5_1, c6_1, v7_1, c8_1, c9_1, r10_1, n10_1, r11_1, n11_1, r12_1, n12_1, r13_1, n13_1, r14_1, v15_1, r16_1, n16_1, r17_1, n17_1, rfl, o_r0_1, o_r1_1, o_r2_1, a_r3_1, f4_1, a_r4_1, f6_1, hz_c6_1, o_v7_1, a_r10_1, f10_1, a_r11_1, f12_1, a_r12_1, f14_1, a_r13_1, f16_1, o_r14_1, o_v15_1, a_r16_1, f20_1, a_r17_1, f22_1, f23_1, f24_1, f25_1, f26_1, f27_1, f28_1, -⟩ := (hG.1 _ _ _ _ hk_1).hX11 rfl
  obtain ⟨b_2, hn9⟩ := nn_h0_7 _ _ _ hk_1
  have hn9 := fe_qr hn9
  subst hn9
  have o_b_2 := o_v7_1 _ rfl
  refine lv_aload_n hx hb dX11_nameEntry_0 rfl (lv_at hl 0 rfl) ?_
  refine lv_iconst (v := 1) hx hb dX11_nameEntry_1 (by decide) ?_
  have hFc := gfree hD hS hA
  have pg_3 := ge_10_17 hD hk_1 rfl a_r17_1
  refine W_led (fun hL0 => ?_)
  refine va_callv (va_runV (As := [.int 1]) (rest := []) ⟨hx, hb, hml, hown, hts⟩ (m_X11_want_x l g s.heap ws h0 (1) wb wc hG o_h0 tk2 (by have q_pwc := pwc; omega)) (cwV 1 hts (gd_V kw_138 kw_275 kw_276 kw_83 kw_274) rfl rfl rfl (by decide +kernel) ⟨Nat.le_of_ble_eq_true rfl, Nat.le_of_ble_eq_true rfl⟩) ⟨gblindH, va_recv hK hP (ci := 10) (q0 := k_1) rfl hk_1, fun U hU hW9 => gmkH hU hW9 hP hK hD hex hE hS hFc⟩ rfl rfl hl.1 rfl (lv_room (Nat.le_of_ble_eq_true rfl)) dX11_nameEntry_2 ⟨(show 0 + (PC ws + (0)) ≤ PC ws + (0) from (by have e0 : (0 : Int32).toInt = 0 := (by decide); omega)), (show 0 + (PS ws + (0)) ≤ PS ws + (0) from (by have e0 : (0 : Int32).toInt = 0 := (by decide); omega))⟩) hS (fun q _ h => hFc q h) hFc (fun  ws_4 t9 H1 locs ht9 hvm9 hw9 hB9 hz9 hk9 hS => ?_)
  obtain ⟨E_5, Fr_6, hG, hP1, hD1, dc_7, ds_8, hLd, hdc_7, hds_8⟩ := hB9
  rw [ht9] at hLd
  refine W_tight (hL0.tr hLd).1 (hL0.tr hLd).2.1 ?_
  clear hL0 hLd
  have hP : va_P (gD g) cl0 ws_4 H1 := by rw [← ht9]; exact hP1
  have hD : va_D A ws_4 := hD1.weaken (fun _ _ _ h => hFc _ h)
  obtain ⟨hw9, xp_9⟩ := hw9
  clear hP1 hD1 hz9 hk9 hvm9 ht9 hw9
  generalize H1 = H at hP hS ⊢
  have aa_10 := a_r3_1
  have aa_11 := a_r4_1
  have aa_12 := a_r10_1
  have aa_13 := a_r11_1
  have aa_14 := a_r12_1
  have aa_15 := a_r13_1
  have aa_16 := a_r16_1
  have aa_17 := a_r17_1
  have o_h0 := E_5.1 _ _ o_h0
  refine lv_aload_n hx hb dX11_nameEntry_5 rfl (lv_at hl 0 rfl) ?_
  refine lv_iload_n hx hb dX11_nameEntry_6 rfl (lv_at hl 1 rfl) ?_
  refine lv_iconst (v := 1) hx hb dX11_nameEntry_7 (by decide) ?_
  refine lv_iadd hx hb dX11_nameEntry_8 ?_
  refine lv_topi (fun z_18 ez_18 => ?_)
  obtain ⟨fs9, hk_19, hq_19⟩ := ((gF.a (F' := [(0, 0), (0, 1)]) Fr_6 (fun _ h => h))) _ _ _ hk_1
  obtain ⟨r0_19, r1_19, r2_19, r3_19, n3_19, r4_19, n4_19, c5_19, c6_19, v7_19, c8_19, c9_19, r10_19, n10_19, r11_19, n11_19, r12_19, n12_19, r13_19, n13_19, r14_19, v15_19, r16_19, n16_19, r17_19, n17_19, rfl, o_r0_19, o_r1_19, o_r2_19, a_r3_19, f4_19, a_r4_19, f6_19, hz_c6_19, o_v7_19, a_r10_19, f10_19, a_r11_19, f12_19, a_r12_19, f14_19, a_r13_19, f16_19, o_r14_19, o_v15_19, a_r16_19, f20_19, a_r17_19, f22_19, f23_19, f24_19, f25_19, f26_19, f27_19, f28_19, -⟩ := (hG.1 _ _ _ _ hk_19).hX11 rfl
  obtain rfl := fe_r (hq_19 2 (by decide))
  have o_r2_1 := o_r2_19
  have hn9 := fe_qr (hq_19 7 (by decide))
  subst hn9
  have o_b_2 := o_v7_19 _ rfl
  obtain rfl := fe_q (hq_19 15 (by decide))
  have o_v15_1 := o_v15_19
  have hFc := gfree hD hS hA
  refine va_calli (va_runV (As := [.int z_18]) (rest := []) ⟨hx, hb, hml, hown, hts⟩ (m_X11_unitByte_x l g H.size ws_4 h0 (z_18) hG o_h0 (gN_of hD hk_19 (j := 7) rfl)) (cwV 1 hts (gd_V kw_219 kw_271 kw_272 kw_83 kw_270) rfl rfl rfl (by decide +kernel) ⟨Nat.le_of_ble_eq_true rfl, Nat.le_of_ble_eq_true rfl⟩) ⟨gblind, va_recv hK hP (ci := 10) (q0 := k_1) rfl hk_19, fun U hU hW9 => gmk hU hW9 hP hK hD hex hE hS hFc⟩ rfl rfl hl.1 rfl (lv_room (Nat.le_of_ble_eq_true rfl)) dX11_nameEntry_9 ⟨(show 0 + dc_7 + 0 ≤ PC ws + (0) from (by omega)), (show 0 + ds_8 + 0 ≤ PS ws + (0) from (by omega))⟩) hS (fun q _ h => hFc q h) hFc (fun r_20 u9 t9 H1 locs ht9 hvm9 hw9 hB9 hz9 hk9 hS => ?_)
  have hP : va_P (gD g) cl0 ws_4 H1 := by rw [← ht9]; exact hB9.1
  obtain ⟨hw9, xp_21⟩ := hw9
  clear hB9 hz9 hk9 hvm9 ht9 hw9
  generalize H1 = H at hP hS ⊢
  refine lv_bipush (v := 8) hx hb dX11_nameEntry_12 (by decide) ?_
  refine lv_ishl hx hb dX11_nameEntry_14 ?_
  refine lv_topi (fun z_22 ez_22 => ?_)
  refine lv_aload_n hx hb dX11_nameEntry_15 rfl (lv_at hl 0 rfl) ?_
  refine lv_iload_n hx hb dX11_nameEntry_16 rfl (lv_at hl 1 rfl) ?_
  refine lv_iconst (v := 2) hx hb dX11_nameEntry_17 (by decide) ?_
  refine lv_iadd hx hb dX11_nameEntry_18 ?_
  refine lv_topi (fun z_23 ez_23 => ?_)
  have hFc := gfree hD hS hA
  refine va_calli (va_runV (As := [.int z_23]) (rest := [.int z_22]) ⟨hx, hb, hml, hown, hts⟩ (m_X11_unitByte_x l g H.size ws_4 h0 (z_23) hG o_h0 (gN_of hD hk_19 (j := 7) rfl)) (cwV 1 hts (gd_V kw_219 kw_271 kw_272 kw_83 kw_270) rfl rfl rfl (by decide +kernel) ⟨Nat.le_of_ble_eq_true rfl, Nat.le_of_ble_eq_true rfl⟩) ⟨gblind, va_recv hK hP (ci := 10) (q0 := k_1) rfl hk_19, fun U hU hW9 => gmk hU hW9 hP hK hD hex hE hS hFc⟩ rfl rfl hl.1 rfl (lv_room (Nat.le_of_ble_eq_true rfl)) dX11_nameEntry_19 ⟨(show 0 + dc_7 + 0 ≤ PC ws + (0) from (by omega)), (show 0 + ds_8 + 0 ≤ PS ws + (0) from (by omega))⟩) hS (fun q _ h => hFc q h) hFc (fun r_24 u9 t9 H1 locs ht9 hvm9 hw9 hB9 hz9 hk9 hS => ?_)
  have hP : va_P (gD g) cl0 ws_4 H1 := by rw [← ht9]; exact hB9.1
  obtain ⟨hw9, xp_25⟩ := hw9
  clear hB9 hz9 hk9 hvm9 ht9 hw9
  generalize H1 = H at hP hS ⊢
  refine lv_ior hx hb dX11_nameEntry_22 ?_
  refine lv_topi (fun z_26 ez_26 => ?_)
  have tq_28 : nlP ws_4 h0 x1 := nlP_mo (Fr_6) (by decide) (by decide) (by decide) tk1
  have nl_27 := nlP_of xp_21 xp_25 ez_18 ez_23 ez_22 ez_26 tq_28
  refine lv_istore_n (lv' := [(2, .int z_26), (0, .ref h0), (1, .int x1)]) hx hb dX11_nameEntry_23 rfl hl (by decide) rfl (fun ls hl => ?_)
  refine lv_iconst (v := 1) hx hb dX11_nameEntry_24 (by decide) ?_
  refine lv_istore_n (lv' := [(3, .int 1), (2, .int z_26), (0, .ref h0), (1, .int x1)]) hx hb dX11_nameEntry_25 rfl hl (by decide) rfl (fun ls hl => ?_)
  have J_26 : ∀ (n9 : Nat) (v3_29 : Int32) (dc_26_1 : Nat) (ds_26_1 : Nat) (ws_32 : va_W) (H : Heap) (locs : List Loc) (ls : Array Slot), (2147483647 - v3_29.toInt).toNat = n9 → 0 ≤ v3_29.toInt → 1 ≤ v3_29.toInt ∧ v3_29.toInt ≤ 103 → gE ws_4 ws_32 → gF [(0, 0), (0, 1)] [(0, 0), (6, 0)] none ws_4 ws_32 → Good g ws_32 → dc_26_1 + PC ws_32 ≤ PC ws + (0) → ds_26_1 + PS ws_32 ≤ PS ws + (0) → wcP ws_32 h0 0 (wb) (v3_29.toInt) → va_P (gD g) cl0 ws_32 H → va_D A ws_32 → va_S A s.heap H locs → lv_has ls 4 [(0, .ref h0), (1, .int x1), (2, .int z_26), (3, .int v3_29)] → W p l e (headSpec (wt yX11_nameEntry cX11_nameEntry 4 (some .int)) ({ frames := 4, cells := PC ws + (0), slots := PS ws + (0), locals := 106 })).room s m ([.ref h0, .int x1] : List Value).toArray below meth c H locs (dc_26_1) (ds_26_1) (MQ below (va_Qi (fun (r : Int32) (u9 : va_W) => (True) ∧ (enP g u9 h0) ∧ (wcP u9 h0 0 (wb) (103))) (gQ2 g [(0, 0), (0, 1), (10, 5), (10, 6)] [(0, 0), (6, 0), (10, 3), (10, 4)] none A ws s.heap (0) (0)) A) ([.ref h0, .int x1] : List Value).toArray s (PC ws + (0)) (PS ws + (0)) A) (F0 m 26 ls []) := by
    intro n9
    induction n9 using Nat.strongRecOn with
    | ind n9 ih_26 =>
      intro v3_29 dc_26_1 ds_26_1 ws_32 H locs ls hm9 iv_30 iv_31 E_33 Fr_34 hG hc9 hs9 jx_26_0 hP hD hS hl
      subst hm9
      have aa_35 := a_r3_19
      have aa_36 := a_r4_19
      have aa_37 := a_r10_19
      have aa_38 := a_r11_19
      have aa_39 := a_r12_19
      have aa_40 := a_r13_19
      have aa_41 := a_r16_19
      have aa_42 := a_r17_19
      have o_h0 := E_33.1 _ _ o_h0
      refine lv_iload_n hx hb dX11_nameEntry_26 rfl (lv_at hl 3 rfl) ?_
      refine lv_iconst (v := 3) hx hb dX11_nameEntry_27 (by decide) ?_
      refine lv_iload_n hx hb dX11_nameEntry_28 rfl (lv_at hl 2 rfl) ?_
      refine lv_iadd hx hb dX11_nameEntry_29 ?_
      refine lv_topi (fun z_43 ez_43 => ?_)
      refine lv_icmp_ge (tgt := 53) hx hb dX11_nameEntry_30 (by decide) (fun c_44 => ?_) (fun c_44 => ?_)
      · refine lv_aload_n hx hb dX11_nameEntry_53 rfl (lv_at hl 0 rfl) ?_
        have tq_45 : enP g ws_32 h0 := enP_mo ((gF.tr Fr_6 Fr_34)) (by decide) (by decide) (by decide) tk0
        have hFc := gfree hD hS hA
        refine W_led (fun hL0 => ?_)
        obtain ⟨k_46, fs_46, hk_46⟩ := gC_of o_h0
        refine va_calli (va_runV (As := []) (rest := []) ⟨hx, hb, hml, hown, hts⟩ (m_X11_entryOfWanted l g H ws_32 h0 (wb) (v3_29.toInt) hG o_h0 tq_45 jx_26_0 (by have e3 : (3 : Int32).toInt = 3 := (by decide); have q_iv_30 := iv_30; have q_iv_31 := iv_31; have q_c_44 := i_le c_44; obtain ⟨u_z_43, q_z_43⟩ := i_add ez_43; have q_nl_27 := nl_27; have g_v3_29 := i_rg v3_29; have g_z_26 := i_rg z_26; have g_z_43 := i_rg z_43; omega) (by have e3 : (3 : Int32).toInt = 3 := (by decide); have q_pwc := pwc; have q_iv_30 := iv_30; have q_iv_31 := iv_31; have q_c_44 := i_le c_44; obtain ⟨u_z_43, q_z_43⟩ := i_add ez_43; have q_nl_27 := nl_27; have g_v3_29 := i_rg v3_29; have g_z_26 := i_rg z_26; have g_z_43 := i_rg z_43; omega)) (cwV 0 hts (gd_V kw_141 kw_143 kw_144 kw_83 kw_142) rfl rfl rfl (by decide +kernel) ⟨Nat.le_of_ble_eq_true rfl, Nat.le_of_ble_eq_true rfl⟩) ⟨gblindH, va_recv hK hP (ci := 10) (q0 := k_46) rfl hk_46, fun U hU hW9 => gmkH hU hW9 hP hK hD hex hE hS hFc⟩ rfl rfl hl.1 rfl (lv_room (Nat.le_of_ble_eq_true rfl)) dX11_nameEntry_54 ⟨(show dc_26_1 + (PC ws_32 + (0)) ≤ PC ws + (0) from (by have e0 : (0 : Int32).toInt = 0 := (by decide); omega)), (show ds_26_1 + (PS ws_32 + (0)) ≤ PS ws + (0) from (by have e0 : (0 : Int32).toInt = 0 := (by decide); omega))⟩) hS (fun q _ h => hFc q h) hFc (fun r_47 ws_48 t9 H1 locs ht9 hvm9 hw9 hB9 hz9 hk9 hS => ?_)
        obtain ⟨E_49, Fr_50, hG, hP1, hD1, dc_51, ds_52, hLd, hdc_51, hds_52⟩ := hB9
        rw [ht9] at hLd
        refine W_tight (hL0.tr hLd).1 (hL0.tr hLd).2.1 ?_
        clear hL0 hLd
        have hP : va_P (gD g) cl0 ws_48 H1 := by rw [← ht9]; exact hP1
        have hD : va_D A ws_48 := hD1.weaken (fun _ _ _ h => hFc _ h)
        obtain ⟨hw9, xp_53, xp_54⟩ := hw9
        clear hP1 hD1 hz9 hk9 hvm9 ht9 hw9
        generalize H1 = H at hP hS ⊢
        have o_h0 := E_49.1 _ _ o_h0
        refine W_led (fun hLd => ?_)
        have hcl : dc_26_1 + dc_51 + PC ws_48 ≤ PC ws + (0) := (by omega)
        have hsl : ds_26_1 + ds_52 + PS ws_48 ≤ PS ws + (0) := (by omega)
        refine W.widen (k := PC ws + (0)) (n := PS ws + (0)) (by omega) (by omega) ?_
        have tq_55 : wcP ws_48 h0 0 (wb) (103) := wcP_le (by have e0 : (0 : Int32).toInt = 0 := (by decide); have e09 : (0 : Int32).toInt = 0 := rfl; omega) (by have q_pwc := pwc; have e09 : (0 : Int32).toInt = 0 := rfl; omega) (by have e3 : (3 : Int32).toInt = 3 := (by decide); have e103 : (103 : Int32).toInt = 103 := (by decide); have q_iv_30 := iv_30; have q_iv_31 := iv_31; have q_c_44 := i_le c_44; obtain ⟨u_z_43, q_z_43⟩ := i_add ez_43; have q_nl_27 := nl_27; have g_v3_29 := i_rg v3_29; have g_z_26 := i_rg z_26; have g_z_43 := i_rg z_43; have e09 : (0 : Int32).toInt = 0 := rfl; omega) xp_54
        exact W.iret (v := r_47) hx hb hr (fun t9 ht9 hW9 => ⟨⟨_, ws_48, rfl, ⟨trivial, xp_53, tq_55⟩, ⟨(E_5.tr (E_33.tr E_49)), (gF.tr (gF.mo (F' := [(0, 0), (0, 1), (10, 5), (10, 6)]) (C' := [(0, 0), (6, 0), (10, 3), (10, 4)]) (S' := none) Fr_6 (by decide) (by decide) (Or.inr rfl)) (gF.tr (gF.mo (F' := [(0, 0), (0, 1), (10, 5), (10, 6)]) (C' := [(0, 0), (6, 0), (10, 3), (10, 4)]) (S' := none) Fr_34 (by decide) (by decide) (Or.inr rfl)) Fr_50)), hG, by rw [ht9]; exact hP, hD, _, _, by rw [ht9]; exact hLd, hcl, hsl⟩⟩, hS.F ht9⟩) hS.2.2 dX11_nameEntry_57
      · refine lv_aload_n hx hb dX11_nameEntry_33 rfl (lv_at hl 0 rfl) ?_
        obtain ⟨fs9, hk_56, hq_56⟩ := ((gF.a (F' := [(0, 0), (0, 1)]) Fr_34 (fun _ h => h))) _ _ _ hk_19
        obtain ⟨r0_56, r1_56, r2_56, r3_56, n3_56, r4_56, n4_56, c5_56, c6_56, v7_56, c8_56, c9_56, r10_56, n10_56, r11_56, n11_56, r12_56, n12_56, r13_56, n13_56, r14_56, v15_56, r16_56, n16_56, r17_56, n17_56, rfl, o_r0_56, o_r1_56, o_r2_56, a_r3_56, f4_56, a_r4_56, f6_56, hz_c6_56, o_v7_56, a_r10_56, f10_56, a_r11_56, f12_56, a_r12_56, f14_56, a_r13_56, f16_56, o_r14_56, o_v15_56, a_r16_56, f20_56, a_r17_56, f22_56, f23_56, f24_56, f25_56, f26_56, f27_56, f28_56, -⟩ := (hG.1 _ _ _ _ hk_56).hX11 rfl
        obtain rfl := fe_r (hq_56 2 (by decide))
        have o_r2_1 := o_r2_56
        have hn9 := fe_qr (hq_56 7 (by decide))
        subst hn9
        have o_b_2 := o_v7_56 _ rfl
        obtain rfl := fe_q (hq_56 15 (by decide))
        have o_v15_1 := o_v15_56
        refine va_get (D := gD g) (ci := 10) (v := .ref r2_1) (C := RX11) (T := TX11) (N := 18) hx hb hts inX11 hown hK hP k_1 hk_56 rfl 2 (by decide) (hts _ kw_139) (fun _ h9 => h9) rfl dX11_nameEntry_34 ?_
        refine lv_aload_n hx hb dX11_nameEntry_37 rfl (lv_at hl 0 rfl) ?_
        refine lv_iload_n hx hb dX11_nameEntry_38 rfl (lv_at hl 1 rfl) ?_
        refine lv_iload_n hx hb dX11_nameEntry_39 rfl (lv_at hl 3 rfl) ?_
        refine lv_iadd hx hb dX11_nameEntry_40 ?_
        refine lv_topi (fun z_57 ez_57 => ?_)
        have hFc := gfree hD hS hA
        refine va_calli (va_runV (As := [.int z_57]) (rest := [.ref r2_1]) ⟨hx, hb, hml, hown, hts⟩ (m_X11_unitByte_x l g H.size ws_32 h0 (z_57) hG o_h0 (gN_of hD hk_56 (j := 7) rfl)) (cwV 1 hts (gd_V kw_219 kw_271 kw_272 kw_83 kw_270) rfl rfl rfl (by decide +kernel) ⟨Nat.le_of_ble_eq_true rfl, Nat.le_of_ble_eq_true rfl⟩) ⟨gblind, va_recv hK hP (ci := 10) (q0 := k_1) rfl hk_56, fun U hU hW9 => gmk hU hW9 hP hK hD hex hE hS hFc⟩ rfl rfl hl.1 rfl (lv_room (Nat.le_of_ble_eq_true rfl)) dX11_nameEntry_41 ⟨(show dc_26_1 + 0 ≤ PC ws + (0) from (by omega)), (show ds_26_1 + 0 ≤ PS ws + (0) from (by omega))⟩) hS (fun q _ h => hFc q h) hFc (fun r_58 u9 t9 H1 locs ht9 hvm9 hw9 hB9 hz9 hk9 hS => ?_)
        have hP : va_P (gD g) cl0 ws_32 H1 := by rw [← ht9]; exact hB9.1
        obtain ⟨hw9, xp_59⟩ := hw9
        clear hB9 hz9 hk9 hvm9 ht9 hw9
        generalize H1 = H at hP hS ⊢
        obtain ⟨k_60, fs9, hk_60⟩ := gC_of o_r2_1
        obtain ⟨r0_60, n0_60, c1_60, rfl, a_r0_60, f1_60, f2_60, f3_60, f4_60, f5_60, -⟩ := (hG.1 _ _ _ _ hk_60).hX0 rfl
        have wb_61 : c1_60.toInt ≤ (v3_29.toInt) := wcP_u2 hD hk_56 rfl hk_60 rfl jx_26_0
        have hkW := hk_56
        have hDW := hD
        have hFc := gfree hD hS hA
        have pg_62 := ge_10_17 hD hk_56 rfl a_r17_56
        have pg_63 := ge_0_0 hD hk_60 rfl a_r0_60
        refine W_led (fun hL0 => ?_)
        refine va_callv (va_runV (As := [.int r_58]) (rest := []) ⟨hx, hb, hml, hown, hts⟩ (m_X0_put l g H ws_32 r2_1 (r_58) (c1_60) hG o_r2_1 (gP_of hD hk_60 (fun q90 e90 => by cases e90; exact (by have e1 : (1 : Int32).toInt = 1 := (by decide); have e2 : (2 : Int32).toInt = 2 := (by decide); have e3 : (3 : Int32).toInt = 3 := (by decide); have q_f2_60 := f2_60; have q_f3_60 := f3_60; have q_wb_61 := wb_61; have q_iv_30 := iv_30; have q_iv_31 := iv_31; have q_c_44 := i_nle c_44; obtain ⟨u_z_57, q_z_57⟩ := i_add ez_57; have q_f1_60 := f1_60; have q_f4_60 := f4_60; have q_f5_60 := f5_60; obtain ⟨u_z_18, q_z_18⟩ := i_add ez_18; obtain ⟨u_z_23, q_z_23⟩ := i_add ez_23; obtain ⟨u_z_43, q_z_43⟩ := i_add ez_43; have q_nl_27 := nl_27; have g_c1_60 := i_rg c1_60; have g_v3_29 := i_rg v3_29; have g_x1 := i_rg x1; have g_z_18 := i_rg z_18; have g_z_23 := i_rg z_23; have g_z_26 := i_rg z_26; have g_z_43 := i_rg z_43; have g_z_57 := i_rg z_57; omega))) (gP_of hD hk_60 (fun q90 e90 => by cases e90; exact (by have e1 : (1 : Int32).toInt = 1 := (by decide); have e2 : (2 : Int32).toInt = 2 := (by decide); have e3 : (3 : Int32).toInt = 3 := (by decide); have q_f2_60 := f2_60; have q_f3_60 := f3_60; have q_wb_61 := wb_61; have q_iv_30 := iv_30; have q_iv_31 := iv_31; have q_c_44 := i_nle c_44; obtain ⟨u_z_57, q_z_57⟩ := i_add ez_57; have q_f1_60 := f1_60; have q_f4_60 := f4_60; have q_f5_60 := f5_60; obtain ⟨u_z_18, q_z_18⟩ := i_add ez_18; obtain ⟨u_z_23, q_z_23⟩ := i_add ez_23; obtain ⟨u_z_43, q_z_43⟩ := i_add ez_43; have q_nl_27 := nl_27; have g_c1_60 := i_rg c1_60; have g_v3_29 := i_rg v3_29; have g_x1 := i_rg x1; have g_z_18 := i_rg z_18; have g_z_23 := i_rg z_23; have g_z_26 := i_rg z_26; have g_z_43 := i_rg z_43; have g_z_57 := i_rg z_57; omega)))) (cwV 1 hts (gd_V kw_140 kw_13 kw_14 kw_3 kw_12) rfl rfl rfl (by decide +kernel) ⟨Nat.le_of_ble_eq_true rfl, Nat.le_of_ble_eq_true rfl⟩) ⟨gblindH, va_recv hK hP (ci := 0) (q0 := k_60) rfl hk_60, fun U hU hW9 => gmkH hU hW9 hP hK hD hex hE hS hFc⟩ rfl rfl hl.1 rfl (lv_room (Nat.le_of_ble_eq_true rfl)) dX11_nameEntry_44 ⟨(show dc_26_1 + (PC ws_32 + (0)) ≤ PC ws + (0) from (by have e0 : (0 : Int32).toInt = 0 := (by decide); omega)), (show ds_26_1 + (PS ws_32 + (0)) ≤ PS ws + (0) from (by have e0 : (0 : Int32).toInt = 0 := (by decide); omega))⟩) hS (fun q _ h => hFc q h) hFc (fun  ws_64 t9 H1 locs ht9 hvm9 hw9 hB9 hz9 hk9 hS => ?_)
        obtain ⟨E_65, Fr_66, hG, hP1, hD1, dc_67, ds_68, hLd, hdc_67, hds_68⟩ := hB9
        rw [ht9] at hLd
        refine W_tight (hL0.tr hLd).1 (hL0.tr hLd).2.1 ?_
        clear hL0 hLd
        have hP : va_P (gD g) cl0 ws_64 H1 := by rw [← ht9]; exact hP1
        have hD : va_D A ws_64 := hD1.weaken (fun _ _ _ h => hFc _ h)
        have kf_69 := hw9
        clear hP1 hD1 hz9 hk9 hvm9 ht9 hw9
        generalize H1 = H at hP hS ⊢
        have aa_70 := a_r3_56
        have aa_71 := a_r4_56
        have aa_72 := a_r10_56
        have aa_73 := a_r11_56
        have aa_74 := a_r12_56
        have aa_75 := a_r13_56
        have aa_76 := a_r16_56
        have aa_77 := a_r17_56
        have aa_78 := a_r0_60
        have o_h0 := E_65.1 _ _ o_h0
        have tq_79 : wcP ws_64 h0 0 (wb) ((v3_29.toInt) + 1) := wcP_2 hDW hG Fr_66 (by decide) (by decide) (by decide) (by decide) hkW rfl (fun k9 ci9 fs9 h9 c9 e9 => by have w9 := kf_69 _ _ _ h9 c9 e9; omega) jx_26_0
        obtain ⟨z_80, ez_80⟩ : ∃ z : Int32, v3_29 + Int32.ofInt 1 = z := ⟨_, rfl⟩
        refine lv_iinc (v := z_80) (lv' := [(3, .int z_80), (0, .ref h0), (1, .int x1), (2, .int z_26)]) hx hb dX11_nameEntry_47 hl (k := 3) rfl ez_80 (by decide) rfl (fun ls hl => ?_)
        refine lv_goto (tgt := 26) hx hb dX11_nameEntry_50 (by decide) ?_
        have tq_81 : wcP ws_64 h0 0 (wb) (z_80.toInt) := wcP_le (by have e0 : (0 : Int32).toInt = 0 := (by decide); have e09 : (0 : Int32).toInt = 0 := rfl; omega) (by have q_pwc := pwc; have e09 : (0 : Int32).toInt = 0 := rfl; omega) (by have e1 : (1 : Int32).toInt = 1 := (by decide); have e2 : (2 : Int32).toInt = 2 := (by decide); have e3 : (3 : Int32).toInt = 3 := (by decide); have q_iv_30 := iv_30; have q_iv_31 := iv_31; have q_c_44 := i_nle c_44; obtain ⟨u_z_57, q_z_57⟩ := i_add ez_57; have q_wb_61 := wb_61; obtain ⟨u_z_80, q_z_80⟩ := i_iz ez_80 (by decide) (by decide); obtain ⟨u_z_18, q_z_18⟩ := i_add ez_18; obtain ⟨u_z_23, q_z_23⟩ := i_add ez_23; obtain ⟨u_z_43, q_z_43⟩ := i_add ez_43; have q_f2_60 := f2_60; have q_f3_60 := f3_60; have q_nl_27 := nl_27; have q_f1_60 := f1_60; have q_f4_60 := f4_60; have q_f5_60 := f5_60; have g_c1_60 := i_rg c1_60; have g_v3_29 := i_rg v3_29; have g_x1 := i_rg x1; have g_z_18 := i_rg z_18; have g_z_23 := i_rg z_23; have g_z_26 := i_rg z_26; have g_z_43 := i_rg z_43; have g_z_57 := i_rg z_57; have g_z_80 := i_rg z_80; have e09 : (0 : Int32).toInt = 0 := rfl; omega) tq_79
        exact ih_26 _ (by have e1 : (1 : Int32).toInt = 1 := (by decide); have e2 : (2 : Int32).toInt = 2 := (by decide); have e3 : (3 : Int32).toInt = 3 := (by decide); obtain ⟨u_z_80, q_z_80⟩ := i_iz ez_80 (by decide) (by decide); have q_iv_30 := iv_30; have q_iv_31 := iv_31; have q_c_44 := i_nle c_44; obtain ⟨u_z_57, q_z_57⟩ := i_add ez_57; have q_wb_61 := wb_61; obtain ⟨u_z_18, q_z_18⟩ := i_add ez_18; obtain ⟨u_z_23, q_z_23⟩ := i_add ez_23; obtain ⟨u_z_43, q_z_43⟩ := i_add ez_43; have q_f2_60 := f2_60; have q_f3_60 := f3_60; have q_nl_27 := nl_27; have q_f1_60 := f1_60; have q_f4_60 := f4_60; have q_f5_60 := f5_60; have g_c1_60 := i_rg c1_60; have g_v3_29 := i_rg v3_29; have g_x1 := i_rg x1; have g_z_18 := i_rg z_18; have g_z_23 := i_rg z_23; have g_z_26 := i_rg z_26; have g_z_43 := i_rg z_43; have g_z_57 := i_rg z_57; have g_z_80 := i_rg z_80; omega) (z_80) (dc_26_1 + dc_67) (ds_26_1 + ds_68) ws_64 H locs ls rfl (by have e1 : (1 : Int32).toInt = 1 := (by decide); have e2 : (2 : Int32).toInt = 2 := (by decide); have e3 : (3 : Int32).toInt = 3 := (by decide); obtain ⟨u_z_80, q_z_80⟩ := i_iz ez_80 (by decide) (by decide); have q_iv_30 := iv_30; have q_iv_31 := iv_31; have q_c_44 := i_nle c_44; obtain ⟨u_z_57, q_z_57⟩ := i_add ez_57; have q_wb_61 := wb_61; obtain ⟨u_z_18, q_z_18⟩ := i_add ez_18; obtain ⟨u_z_23, q_z_23⟩ := i_add ez_23; obtain ⟨u_z_43, q_z_43⟩ := i_add ez_43; have q_f2_60 := f2_60; have q_f3_60 := f3_60; have q_nl_27 := nl_27; have q_f1_60 := f1_60; have q_f4_60 := f4_60; have q_f5_60 := f5_60; have g_c1_60 := i_rg c1_60; have g_v3_29 := i_rg v3_29; have g_x1 := i_rg x1; have g_z_18 := i_rg z_18; have g_z_23 := i_rg z_23; have g_z_26 := i_rg z_26; have g_z_43 := i_rg z_43; have g_z_57 := i_rg z_57; have g_z_80 := i_rg z_80; omega) (by have e1 : (1 : Int32).toInt = 1 := (by decide); have e2 : (2 : Int32).toInt = 2 := (by decide); have e3 : (3 : Int32).toInt = 3 := (by decide); obtain ⟨u_z_18, q_z_18⟩ := i_add ez_18; obtain ⟨u_z_23, q_z_23⟩ := i_add ez_23; have q_nl_27 := nl_27; obtain ⟨u_z_43, q_z_43⟩ := i_add ez_43; obtain ⟨u_z_57, q_z_57⟩ := i_add ez_57; obtain ⟨u_z_80, q_z_80⟩ := i_iz ez_80 (by decide) (by decide); have q_iv_30 := iv_30; have q_iv_31 := iv_31; have q_c_44 := i_nle c_44; have q_wb_61 := wb_61; have q_f2_60 := f2_60; have q_f3_60 := f3_60; have q_f1_60 := f1_60; have q_f4_60 := f4_60; have q_f5_60 := f5_60; have g_c1_60 := i_rg c1_60; have g_v3_29 := i_rg v3_29; have g_x1 := i_rg x1; have g_z_18 := i_rg z_18; have g_z_23 := i_rg z_23; have g_z_26 := i_rg z_26; have g_z_43 := i_rg z_43; have g_z_57 := i_rg z_57; have g_z_80 := i_rg z_80; omega) ((E_33.tr E_65)) ((gF.tr Fr_34 (gF.mo (F' := [(0, 0), (0, 1)]) (C' := [(0, 0), (6, 0)]) (S' := none) Fr_66 (fun _ h => h) (fun _ h => h) (Or.inl rfl)))) hG (by omega) (by omega) tq_81 hP hD hS (lv_sub hl [1, 2, 3, 0] rfl)
  have tq_82 : wcP ws_4 h0 0 (wb) ((1 : Int32).toInt) := wcP_le (by have e0 : (0 : Int32).toInt = 0 := (by decide); have e09 : (0 : Int32).toInt = 0 := rfl; omega) (by have q_pwc := pwc; have e09 : (0 : Int32).toInt = 0 := rfl; omega) (by have e1 : (1 : Int32).toInt = 1 := (by decide); have e09 : (0 : Int32).toInt = 0 := rfl; omega) xp_9
  exact J_26 _ (1) (0 + dc_7) (0 + ds_8) ws_4 H locs ls rfl (by have e1 : (1 : Int32).toInt = 1 := (by decide); omega) (by have e1 : (1 : Int32).toInt = 1 := (by decide); have e2 : (2 : Int32).toInt = 2 := (by decide); obtain ⟨u_z_18, q_z_18⟩ := i_add ez_18; obtain ⟨u_z_23, q_z_23⟩ := i_add ez_23; have q_nl_27 := nl_27; have g_x1 := i_rg x1; have g_z_18 := i_rg z_18; have g_z_23 := i_rg z_23; have g_z_26 := i_rg z_26; omega) (gE.rf) (gF.rf) hG (by omega) (by omega) tq_82 hP hD hS (lv_sub hl [2, 3, 1, 0] rfl)
set_option maxHeartbeats 1000000 in
set_option maxRecDepth 100000 in
theorem m_X11_classOf (l : Launch) (g : Gm) (H0 : Heap) (ws : va_W) (h0 : Nat) (x1 : Int32) (wb : Int) (wc : Int) (hG : Good g ws) (o_h0 : gC ws h0 10) (tk0 : enP g ws h0) (tk1 : wcP ws h0 0 wb wc) (pwc : 0 ≤ wb ∧ 0 ≤ wc ∧ (wb) ≤ 131072 ∧ (wc + 14) ≤ 131072) : Met l yX11_classOf (wt yX11_classOf cX11_classOf 2 (some .int)) ({ frames := 5, cells := PC ws + (0), slots := PS ws + (0), locals := 128 }) (va_Pc [.ref h0, .int x1] (st_H g H0 ws)) (va_Qi (fun (r : Int32) (u9 : va_W) => (True) ∧ (enP g u9 h0) ∧ (wcP u9 h0 0 (wb) (wc + 14))) (gQ2 g [(0, 0), (0, 1), (10, 5), (10, 6)] [(0, 0), (6, 0), (10, 3), (10, 4)] none (va_A ws H0.size) ws H0 (0) (0)) (va_A ws H0.size)) (PC ws + (0)) (PS ws + (0)) (va_A ws H0.size) := by
  refine Met.ofW (cc := cX11_classOf) (maxL := 2) (ret := (some .int)) (by decide) rfl ?_
  intro p e s m args below meth c s₁ B hml hv
  obtain ⟨rfl, hH0, hsz, hP, hK, hD0, hex, hE⟩ := hv
  have hx := B.exec
  have hb := B.bytes
  have hr := B.returns
  have hts0 := atoms_spec (ws := wt yX11_classOf cX11_classOf 2 (some .int)) B.pre
  have hts : ∀ w ∈ tb, w.before _ s = true := fun w h => hts0 w (List.mem_cons_of_mem _ h)
  have hown : s.vm.findClass RX11 = some m.cls := findClass_of_methodNamed B.named
  subst hH0
  have hD := hD0.self (sz := s.heap.size)
  generalize hAe : va_A ws s.heap.size = A at hD hE ⊢
  have hA : ∀ q : Nat, s.heap.size ≤ q → A q := fun q h => by rw [← hAe]; exact Or.inr h
  have hS : va_S A s.heap s.heap [] := va_S.rf
  have hl := lv_entry ([.ref h0, .int x1]) (n := 2) (Nat.le_of_ble_eq_true rfl)
  rw [lg_entry_eq]
  generalize (lg_sl ([.ref h0, .int x1]) ++ List.replicate (2 - (lg_sl ([.ref h0, .int x1])).length) Slot.unset).toArray = ls at hl ⊢
  have hl : lv_has ls 2 [(0, .ref h0), (1, .int x1)] := hl
  refine lv_iload_n hx hb dX11_classOf_0 rfl (lv_at hl 1 rfl) ?_
  refine lv_iconst (v := (-1)) hx hb dX11_classOf_1 (by decide) ?_
  refine lv_icmp_ne (tgt := 9) hx hb dX11_classOf_2 (by decide) (fun c_1 => ?_) (fun c_1 => ?_)
  · refine lv_aload_n hx hb dX11_classOf_9 rfl (lv_at hl 0 rfl) ?_
    refine lv_bipush (v := 7) hx hb dX11_classOf_10 (by decide) ?_
    refine lv_aload_n hx hb dX11_classOf_12 rfl (lv_at hl 0 rfl) ?_
    refine lv_iload_n hx hb dX11_classOf_13 rfl (lv_at hl 1 rfl) ?_
    have hFc := gfree hD hS hA
    refine va_callq (va_runS (As := [.int x1]) (rest := [.ref h0, .int 7, .ref h0]) ⟨hx, hb, hml, hown, hts⟩ (m_X6_errorName l g s.heap.size ws (x1) hG ) (va_cwS 1 hts (gd_S kw_134 kw_1214 kw_1207 kw_1213) rfl rfl rfl (by decide +kernel) ⟨Nat.le_of_ble_eq_true rfl, Nat.le_of_ble_eq_true rfl⟩) ⟨gblind, fun U hU hW9 => gmk hU hW9 hP hK hD hex hE hS hFc⟩ rfl rfl hl.1 rfl (lv_room (Nat.le_of_ble_eq_true rfl)) dX11_classOf_14 ⟨(show 0 + 0 ≤ PC ws + (0) from (by have e0 : (0 : Int32).toInt = 0 := (by decide); omega)), (show 0 + 0 ≤ PS ws + (0) from (by have e0 : (0 : Int32).toInt = 0 := (by decide); omega))⟩) hS (fun q _ h => hFc q h) hFc (fun r_2 u9 t9 H1 locs ht9 hvm9 hw9 hB9 hz9 hk9 hS => ?_)
    have hP : va_P (gD g) cl0 ws H1 := by rw [← ht9]; exact hB9.1
    have o_r_2 := hw9
    clear hB9 hz9 hk9 hvm9 ht9 hw9
    generalize H1 = H at hP hS ⊢
    obtain ⟨b_3, n_4, rfl, t_b_3⟩ := o_r_2
    have hFc := gfree hD hS hA
    refine W_led (fun hL0 => ?_)
    obtain ⟨k_5, fs_5, hk_5⟩ := gC_of o_h0
    refine va_calli (va_runV (As := [.ref b_3]) (rest := [.int 7, .ref h0]) ⟨hx, hb, hml, hown, hts⟩ (m_X11_textEntry l g H ws h0 b_3 (n_4) wb wc hG o_h0 t_b_3 tk0 tk1 (by have q_pwc := pwc; omega)) (cwV 1 hts (gd_V kw_119 kw_266 kw_267 kw_83 kw_265) rfl rfl rfl (by decide +kernel) ⟨Nat.le_of_ble_eq_true rfl, Nat.le_of_ble_eq_true rfl⟩) ⟨gblindH, va_recv hK hP (ci := 10) (q0 := k_5) rfl hk_5, fun U hU hW9 => gmkH hU hW9 hP hK hD hex hE hS hFc⟩ rfl rfl hl.1 rfl (lv_room (Nat.le_of_ble_eq_true rfl)) dX11_classOf_17 ⟨(show 0 + (PC ws + (0)) ≤ PC ws + (0) from (by have e0 : (0 : Int32).toInt = 0 := (by decide); omega)), (show 0 + (PS ws + (0)) ≤ PS ws + (0) from (by have e0 : (0 : Int32).toInt = 0 := (by decide); omega))⟩) hS (fun q _ h => hFc q h) hFc (fun r_6 ws_7 t9 H1 locs ht9 hvm9 hw9 hB9 hz9 hk9 hS => ?_)
    obtain ⟨E_8, Fr_9, hG, hP1, hD1, dc_10, ds_11, hLd, hdc_10, hds_11⟩ := hB9
    rw [ht9] at hLd
    refine W_tight (hL0.tr hLd).1 (hL0.tr hLd).2.1 ?_
    clear hL0 hLd
    have hP : va_P (gD g) cl0 ws_7 H1 := by rw [← ht9]; exact hP1
    have hD : va_D A ws_7 := hD1.weaken (fun _ _ _ h => hFc _ h)
    obtain ⟨hw9, xp_12, xp_13⟩ := hw9
    clear hP1 hD1 hz9 hk9 hvm9 ht9 hw9
    generalize H1 = H at hP hS ⊢
    have o_h0 := E_8.1 _ _ o_h0
    have hFc := gfree hD hS hA
    refine W_led (fun hL0 => ?_)
    obtain ⟨k_14, fs_14, hk_14⟩ := gC_of o_h0
    refine va_calli (va_runV (As := [.int 7, .int r_6]) (rest := []) ⟨hx, hb, hml, hown, hts⟩ (m_X11_pointerEntry l g H ws_7 h0 (7) (r_6) (wb) (14) hG o_h0 xp_12 xp_13 (by have e14 : (14 : Int32).toInt = 14 := (by decide); have q_pwc := pwc; omega)) (cwV 2 hts (gd_V kw_121 kw_231 kw_232 kw_83 kw_230) rfl rfl rfl (by decide +kernel) ⟨Nat.le_of_ble_eq_true rfl, Nat.le_of_ble_eq_true rfl⟩) ⟨gblindH, va_recv hK hP (ci := 10) (q0 := k_14) rfl hk_14, fun U hU hW9 => gmkH hU hW9 hP hK hD hex hE hS hFc⟩ rfl rfl hl.1 rfl (lv_room (Nat.le_of_ble_eq_true rfl)) dX11_classOf_20 ⟨(show 0 + dc_10 + (PC ws_7 + (0)) ≤ PC ws + (0) from (by have e0 : (0 : Int32).toInt = 0 := (by decide); omega)), (show 0 + ds_11 + (PS ws_7 + (0)) ≤ PS ws + (0) from (by have e0 : (0 : Int32).toInt = 0 := (by decide); omega))⟩) hS (fun q _ h => hFc q h) hFc (fun r_15 ws_16 t9 H1 locs ht9 hvm9 hw9 hB9 hz9 hk9 hS => ?_)
    obtain ⟨E_17, Fr_18, hG, hP1, hD1, dc_19, ds_20, hLd, hdc_19, hds_20⟩ := hB9
    rw [ht9] at hLd
    refine W_tight (hL0.tr hLd).1 (hL0.tr hLd).2.1 ?_
    clear hL0 hLd
    have hP : va_P (gD g) cl0 ws_16 H1 := by rw [← ht9]; exact hP1
    have hD : va_D A ws_16 := hD1.weaken (fun _ _ _ h => hFc _ h)
    obtain ⟨hw9, xp_21, xp_22⟩ := hw9
    clear hP1 hD1 hz9 hk9 hvm9 ht9 hw9
    generalize H1 = H at hP hS ⊢
    have o_h0 := E_17.1 _ _ o_h0
    refine W_led (fun hLd => ?_)
    have hcl : 0 + dc_10 + dc_19 + PC ws_16 ≤ PC ws + (0) := (by omega)
    have hsl : 0 + ds_11 + ds_20 + PS ws_16 ≤ PS ws + (0) := (by omega)
    refine W.widen (k := PC ws + (0)) (n := PS ws + (0)) (by omega) (by omega) ?_
    have tq_23 : wcP ws_16 h0 0 (wb) (wc + 14) := wcP_le (by have e0 : (0 : Int32).toInt = 0 := (by decide); have e09 : (0 : Int32).toInt = 0 := rfl; omega) (by have q_pwc := pwc; have e09 : (0 : Int32).toInt = 0 := rfl; omega) (by have e3 : (3 : Int32).toInt = 3 := (by decide); have q_pwc := pwc; have e09 : (0 : Int32).toInt = 0 := rfl; omega) xp_22
    exact W.iret (v := r_15) hx hb hr (fun t9 ht9 hW9 => ⟨⟨_, ws_16, rfl, ⟨trivial, xp_21, tq_23⟩, ⟨(E_8.tr E_17), (gF.tr Fr_9 Fr_18), hG, by rw [ht9]; exact hP, hD, _, _, by rw [ht9]; exact hLd, hcl, hsl⟩⟩, hS.F ht9⟩) hS.2.2 dX11_classOf_23
  · refine lv_iconst (v := 0) hx hb dX11_classOf_5 (by decide) ?_
    refine lv_goto (tgt := 23) hx hb dX11_classOf_6 (by decide) ?_
    refine W_led (fun hLd => ?_)
    have hcl : 0 + PC ws ≤ PC ws + (0) := (by have e0 : (0 : Int32).toInt = 0 := (by decide); omega)
    have hsl : 0 + PS ws ≤ PS ws + (0) := (by have e0 : (0 : Int32).toInt = 0 := (by decide); omega)
    refine W.widen (k := PC ws + (0)) (n := PS ws + (0)) (by omega) (by omega) ?_
    have tq_24 : wcP ws h0 0 (wb) (wc + 14) := wcP_le (by have e0 : (0 : Int32).toInt = 0 := (by decide); have e09 : (0 : Int32).toInt = 0 := rfl; omega) (by have q_pwc := pwc; have e09 : (0 : Int32).toInt = 0 := rfl; omega) (by have q_pwc := pwc; have e09 : (0 : Int32).toInt = 0 := rfl; omega) tk1
    exact W.iret (v := 0) hx hb hr (fun t9 ht9 hW9 => ⟨⟨_, ws, rfl, ⟨trivial, tk0, tq_24⟩, ⟨gE.rf, gF.rf, hG, by rw [ht9]; exact hP, hD, _, _, by rw [ht9]; exact hLd, hcl, hsl⟩⟩, hS.F ht9⟩) hS.2.2 dX11_classOf_23
