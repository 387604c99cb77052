set_option maxHeartbeats 4000000 in
set_option maxRecDepth 100000 in
theorem m_X3_draw (l : Launch) (g : Gm) (H0 : Heap) (ws : va_W) (h0 : Nat) (b1 : Nat) (hG : Good g ws) (o_h0 : gC ws h0 3) (o_b1 : gC ws b1 7) (tk0 : grR ws h0) (tk1 : rowC ws b1 RV) : Met l yX3_draw (wt yX3_draw cX3_draw 2 none) ({ frames := 4, cells := PC ws + (0), slots := PS ws + (0), locals := 110 }) (va_Pc [.ref h0, .ref b1] (st_H g H0 ws)) (va_Qv (fun (u9 : va_W) => (True) ∧ (gN u9 h0 0) ∧ (grR u9 h0)) (gQ2 g [(3, 0), (3, 1), (3, 2), (3, 3), (3, 4), (3, 5), (3, 6), (3, 7), (3, 8), (3, 9), (3, 10), (3, 11), (3, 12), (3, 13), (3, 14), (3, 15)] [(3, 2), (3, 3), (3, 4), (3, 5), (3, 6), (3, 7), (3, 8), (3, 9), (3, 11), (3, 12), (3, 13), (3, 14), (3, 15)] none (va_A ws H0.size) ws H0 (0) (0)) (va_A ws H0.size)) (PC ws + (0)) (PS ws + (0)) (va_A ws H0.size) := by
  refine Met.ofW (cc := cX3_draw) (maxL := 2) (ret := none) (by decide) rfl ?_
  intro p e s m args below meth c s₁ B hml hv
  obtain ⟨rfl, hH0, hsz, hP, hK, hD0, hex, hE⟩ := hv
  have hx := B.exec
  have hb := B.bytes
  have hr := B.returns
  have hts0 := atoms_spec (ws := wt yX3_draw cX3_draw 2 none) B.pre
  have hts : ∀ w ∈ tb, w.before _ s = true := fun w h => hts0 w (List.mem_cons_of_mem _ h)
  have hown : s.vm.findClass RX3 = some m.cls := findClass_of_methodNamed B.named
  subst hH0
  have hD := hD0.self (sz := s.heap.size)
  generalize hAe : va_A ws s.heap.size = A at hD hE ⊢
  have hA : ∀ q : Nat, s.heap.size ≤ q → A q := fun q h => by rw [← hAe]; exact Or.inr h
  have hS : va_S A s.heap s.heap [] := va_S.rf
  have hl := lv_entry ([.ref h0, .ref b1]) (n := 2) (Nat.le_of_ble_eq_true rfl)
  rw [lg_entry_eq]
  generalize (lg_sl ([.ref h0, .ref b1]) ++ List.replicate (2 - (lg_sl ([.ref h0, .ref b1])).length) Slot.unset).toArray = ls at hl ⊢
  have hl : lv_has ls 2 [(0, .ref h0), (1, .ref b1)] := hl
  obtain ⟨k_1, fs9, hk_1⟩ := gC_of o_h0
  refine opn_X3 hG hk_1 (fun v0_1 c1_1 r2_1 n2_1 r3_1 n3_1 r4_1 n4_1 r5_1 n5_1 r6_1 n6_1 r7_1 n7_1 r8_1 n8_1 r9_1 n9_1 c10_1 r11_1 n11_1 r12_1 n12_1 r13_1 n13_1 r14_1 n14_1 r15_1 n15_1 hf9 o_v0_1 a_r2_1 f2_1 a_r3_1 f4_1 a_r4_1 f6_1 a_r5_1 f8_1 a_r6_1 f10_1 a_r7_1 f12_1 a_r8_1 f14_1 a_r9_1 f16_1 a_r11_1 f18_1 a_r12_1 f20_1 a_r13_1 f22_1 a_r14_1 f24_1 a_r15_1 f26_1 f27_1 f28_1 f29_1 f30_1 f31_1 f32_1 f33_1 f34_1 f35_1 f36_1 f37_1 f38_1 f39_1 f40_1 => ?_)
  subst hf9
  obtain ⟨k_2, f_2, hk_2⟩ := gI_of a_r2_1
  obtain ⟨k_3, f_3, hk_3⟩ := gI_of a_r8_1
  obtain ⟨k_4, f_4, hk_4⟩ := gI_of a_r5_1
  have gn_5 := grR_n hD hk_1 rfl rfl rfl rfl hk_2 hk_3 hk_4 tk0
  replace gn_5 := hide gn_5
  refine lv_aload_n hx hb dX3_draw_0 rfl (lv_at hl 1 rfl) ?_
  refine lv_ifnull hx hb dX3_draw_1 ?_
  refine lv_aload_n hx hb dX3_draw_4 rfl (lv_at hl 1 rfl) ?_
  refine lv_aload_n hx hb dX3_draw_5 rfl (lv_at hl 0 rfl) ?_
  refine va_get (D := gD g) (ci := 3) (v := va_rf v0_1) (C := RX3) (T := TX3) (N := 16) hx hb hts inX3 hown hK hP k_1 hk_1 rfl 0 (by decide) (hts _ kw_836) (fun _ h9 => h9) rfl dX3_draw_6 ?_
  rcases v0_1 with _ | b_6
  · skip
    refine lv_acmp_ne (rx := (some b1)) (ry := none) (tgt := 13) hx hb dX3_draw_9 (by decide) (fun _ => ?_) (fun c9 => by cases c9)
    refine lv_aload_n hx hb dX3_draw_13 rfl (lv_at hl 0 rfl) ?_
    refine lv_aload_n hx hb dX3_draw_14 rfl (lv_at hl 1 rfl) ?_
    have hV9 : okv ws 3 0 (.ref b1) := (okv_o hD o_b1)
    refine va_put (D := gD g) (ci := 3) (v := .ref b1) (ty := (.object "CodeFoundry$Row")) (C := RX3) (T := TX3) (N := 16) hx hb hts inX3 tyX3 tyX3_ok nmX3 hown hK hP hD hS k_1 hk_1 rfl 0 (by decide) (hts _ kw_836) (fun _ h9 => h9) rfl (by decide +kernel) rfl rfl (Nat.le_of_ble_eq_true rfl) dX3_draw_15 (fun H locs hP hD hS => ?_)
    have hi_7 : invX3 g ws h0 [.ref b1, .int c1_1, .ref r2_1, .ref r3_1, .ref r4_1, .ref r5_1, .ref r6_1, .ref r7_1, .ref r8_1, .ref r9_1, .int c10_1, .ref r11_1, .ref r12_1, .ref r13_1, .ref r14_1, .ref r15_1] := ⟨(some b1), (c1_1), r2_1, (n2_1), r3_1, (n3_1), r4_1, (n4_1), r5_1, (n5_1), r6_1, (n6_1), r7_1, (n7_1), r8_1, (n8_1), r9_1, (n9_1), (c10_1), r11_1, (n11_1), r12_1, (n12_1), r13_1, (n13_1), r14_1, (n14_1), r15_1, (n15_1), rfl, (fun b h9 => by cases h9; exact o_b1), a_r2_1, f2_1, a_r3_1, f4_1, a_r4_1, f6_1, a_r5_1, f8_1, a_r6_1, f10_1, a_r7_1, f12_1, a_r8_1, f14_1, a_r9_1, f16_1, a_r11_1, f18_1, a_r12_1, f20_1, a_r13_1, f22_1, a_r14_1, f24_1, a_r15_1, f26_1, f27_1, f28_1, f29_1, f30_1, f31_1, f32_1, f33_1, f34_1, f35_1, f36_1, f37_1, f38_1, f39_1, f40_1, trivial⟩
    obtain ⟨ws_8, e_ws_8⟩ : ∃ z, z = ws.set k_1 (h0, .inr (3, [.ref b1, .int c1_1, .ref r2_1, .ref r3_1, .ref r4_1, .ref r5_1, .ref r6_1, .ref r7_1, .ref r8_1, .ref r9_1, .int c10_1, .ref r11_1, .ref r12_1, .ref r13_1, .ref r14_1, .ref r15_1])) := ⟨_, rfl⟩
    have hP : va_P (gD g) cl0 ws_8 H := by rw [e_ws_8]; exact hP
    have hD : va_D A ws_8 := by rw [e_ws_8]; exact hD
    have E_9 : gE ws ws_8 := gE_set e_ws_8 hk_1 (cw_o (fi := 0) (v := .ref b1) rfl (by decide))
    have hG : Good g ws_8 := Good_set (fi := 0) (v := .ref b1) e_ws_8 hk_1 E_9 rfl hV9 hG (ivX3 hi_7)
    have Fr_10 : gF [(3, 0)] [] (some h0) ws ws_8 := gF_put (fi := 0) (v := .ref b1) e_ws_8 hk_1 rfl (by decide)
    have pp_11 := Fr_10.pp
    have hkN := gset_self e_ws_8 hk_1
    have hk_2 := gset_obI e_ws_8 hk_1 hk_2
    have hk_3 := gset_obI e_ws_8 hk_1 hk_3
    have hk_4 := gset_obI e_ws_8 hk_1 hk_4
    have hk_1 := hkN
    have o_h0 := E_9.1 _ _ o_h0
    have o_b1 := E_9.1 _ _ o_b1
    have a_r2_1 := E_9.1 _ _ a_r2_1
    have a_r3_1 := E_9.1 _ _ a_r3_1
    have a_r4_1 := E_9.1 _ _ a_r4_1
    have a_r5_1 := E_9.1 _ _ a_r5_1
    have a_r6_1 := E_9.1 _ _ a_r6_1
    have a_r7_1 := E_9.1 _ _ a_r7_1
    have a_r8_1 := E_9.1 _ _ a_r8_1
    have a_r9_1 := E_9.1 _ _ a_r9_1
    have a_r11_1 := E_9.1 _ _ a_r11_1
    have a_r12_1 := E_9.1 _ _ a_r12_1
    have a_r13_1 := E_9.1 _ _ a_r13_1
    have a_r14_1 := E_9.1 _ _ a_r14_1
    have a_r15_1 := E_9.1 _ _ a_r15_1
    have tq_12 : rowC ws_8 b1 RV := rowC_mo ((gF.mo (F' := [(3, 0)]) (C' := []) (S' := none) Fr_10 (fun _ h => h) (fun _ h => h) (Or.inl rfl))) (by decide) (by decide) (by decide) (by decide) (by decide) (by decide) (by decide) (by decide) tk1
    have tq_13 : rwG ws_8 h0 := ⟨_, b1, _, hk_1, rfl, tq_12⟩
    obtain ⟨k_14, fs9, hk_14⟩ := gC_of o_b1
    refine opn_X8 hG hk_14 (fun r0_14 n0_14 r1_14 n1_14 c2_14 r3_14 n3_14 c4_14 r5_14 n5_14 r6_14 n6_14 r7_14 n7_14 r8_14 n8_14 c9_14 c10_14 c11_14 v12_14 v13_14 v14_14 hf9 a_r0_14 f1_14 a_r1_14 f3_14 a_r3_14 f5_14 a_r5_14 f7_14 a_r6_14 f9_14 a_r7_14 f11_14 a_r8_14 f13_14 o_v12_14 o_v13_14 o_v14_14 f17_14 f18_14 f19_14 f20_14 f21_14 f22_14 f23_14 f24_14 f25_14 f26_14 f27_14 f28_14 f29_14 => ?_)
    subst hf9
    obtain ⟨k_15, f_15, hk_15⟩ := gI_of a_r0_14
    obtain ⟨k_16, f_16, hk_16⟩ := gJ_of a_r1_14
    obtain ⟨k_17, f_17, hk_17⟩ := gI_of a_r3_14
    have rv_18 := (rowC_at hD hk_14 rfl rfl rfl rfl rfl hk_15 hk_16 hk_17 tq_12).2
    replace rv_18 := hide rv_18
    refine lv_aload_n hx hb dX3_draw_18 rfl (lv_at hl 0 rfl) ?_
    have hFc := gfree hD hS hA
    refine W_led (fun hL0 => ?_)
    refine va_callv (va_runV (As := []) (rest := []) ⟨hx, hb, hml, hown, hts⟩ (m_X3_findBlocks l g H ws_8 h0 (c2_14) hG o_h0 (gN_of hD hk_1 (j := 0) rfl) (fun k9 k8 b9 fs gs e1 e2 e3 q0 e40 => by obtain rfl := gO_un hD hk_1 e1; cases e2; obtain rfl := gO_un hD hk_14 e3; cases e40; exact (by first | (have q_f19_14 := Hide.out f19_14; have q_f20_14 := Hide.out f20_14; have q_rv_18 := Hide.out rv_18; have g_c2_14 := i_rg c2_14; omega) | (have q_f19_14 := Hide.out f19_14; have q_f20_14 := Hide.out f20_14; have q_rv_18 := Hide.out rv_18; have q_f1_14 := Hide.out f1_14; have q_f17_14 := Hide.out f17_14; have q_f18_14 := Hide.out f18_14; have g_c2_14 := i_rg c2_14; omega) | (have q_f19_14 := Hide.out f19_14; have q_f20_14 := Hide.out f20_14; have q_rv_18 := Hide.out rv_18; have q_f1_14 := Hide.out f1_14; have q_f17_14 := Hide.out f17_14; have q_f18_14 := Hide.out f18_14; have q_f3_14 := Hide.out f3_14; have g_c2_14 := i_rg c2_14; omega))) (fun k9 k8 b9 fs gs e1 e2 e3 q0 e40 => by obtain rfl := gO_un hD hk_1 e1; cases e2; obtain rfl := gO_un hD hk_14 e3; cases e40; exact (by first | (have q_f19_14 := Hide.out f19_14; have q_f20_14 := Hide.out f20_14; have q_rv_18 := Hide.out rv_18; have g_c2_14 := i_rg c2_14; omega) | (have q_f19_14 := Hide.out f19_14; have q_f20_14 := Hide.out f20_14; have q_rv_18 := Hide.out rv_18; have q_f1_14 := Hide.out f1_14; have q_f17_14 := Hide.out f17_14; have q_f18_14 := Hide.out f18_14; have g_c2_14 := i_rg c2_14; omega) | (have q_f19_14 := Hide.out f19_14; have q_f20_14 := Hide.out f20_14; have q_rv_18 := Hide.out rv_18; have q_f1_14 := Hide.out f1_14; have q_f17_14 := Hide.out f17_14; have q_f18_14 := Hide.out f18_14; have q_f3_14 := Hide.out f3_14; have g_c2_14 := i_rg c2_14; omega)))) (cwV 0 hts (gd_V kw_875 kw_889 kw_890 kw_401 kw_888) rfl rfl rfl (by decide +kernel) ⟨Nat.le_of_ble_eq_true rfl, Nat.le_of_ble_eq_true rfl⟩) ⟨gblindH, va_recv hK hP (ci := 3) (q0 := k_1) rfl hk_1, fun U hU hW9 => gmkH hU hW9 hP hK hD hex hE hS hFc⟩ rfl rfl hl.1 rfl (lv_room (Nat.le_of_ble_eq_true rfl)) dX3_draw_19 ⟨(show 0 + (PC ws_8 + (0)) ≤ PC ws + (0) from (by have e0 : (0 : Int32).toInt = 0 := (by decide); omega)), (show 0 + (PS ws_8 + (0)) ≤ PS ws + (0) from (by have e0 : (0 : Int32).toInt = 0 := (by decide); omega))⟩) hS (fun q _ h => hFc q h) hFc (fun  ws_19 t9 H1 locs ht9 hvm9 hw9 hB9 hz9 hk9 hS => ?_)
    obtain ⟨E_20, Fr_21, hG, hP1, hD1, dc_22, ds_23, hLd, hdc_22, hds_23⟩ := hB9
    rw [ht9] at hLd
    refine W_tight (hL0.tr hLd).1 (hL0.tr hLd).2.1 ?_
    clear hL0 hLd
    have hP : va_P (gD g) cl0 ws_19 H1 := by rw [← ht9]; exact hP1
    have hD : va_D A ws_19 := hD1.weaken (fun _ _ _ h => hFc _ h)
    obtain ⟨hw9, xp_24, xp_25⟩ := hw9
    clear hP1 hD1 hz9 hk9 hvm9 ht9 hw9
    generalize H1 = H at hP hS ⊢
    have aa_26 := a_r2_1
    have aa_27 := a_r3_1
    have aa_28 := a_r4_1
    have aa_29 := a_r5_1
    have aa_30 := a_r6_1
    have aa_31 := a_r7_1
    have aa_32 := a_r8_1
    have aa_33 := a_r9_1
    have aa_34 := a_r11_1
    have aa_35 := a_r12_1
    have aa_36 := a_r13_1
    have aa_37 := a_r14_1
    have aa_38 := a_r15_1
    have aa_39 := a_r0_14
    have aa_40 := a_r1_14
    have aa_41 := a_r3_14
    have aa_42 := a_r5_14
    have aa_43 := a_r6_14
    have aa_44 := a_r7_14
    have aa_45 := a_r8_14
    have o_h0 := E_20.1 _ _ o_h0
    have o_b1 := E_20.1 _ _ o_b1
    obtain ⟨fs9, hk_46, hq_46⟩ := ((gF.a (F' := [(3, 1), (3, 2), (3, 3)]) Fr_21 (fun _ h => h))) _ _ _ hk_1
    refine opn_X3 hG hk_46 (fun v0_46 c1_46 r2_46 n2_46 r3_46 n3_46 r4_46 n4_46 r5_46 n5_46 r6_46 n6_46 r7_46 n7_46 r8_46 n8_46 r9_46 n9_46 c10_46 r11_46 n11_46 r12_46 n12_46 r13_46 n13_46 r14_46 n14_46 r15_46 n15_46 hf9 o_v0_46 a_r2_46 f2_46 a_r3_46 f4_46 a_r4_46 f6_46 a_r5_46 f8_46 a_r6_46 f10_46 a_r7_46 f12_46 a_r8_46 f14_46 a_r9_46 f16_46 a_r11_46 f18_46 a_r12_46 f20_46 a_r13_46 f22_46 a_r14_46 f24_46 a_r15_46 f26_46 f27_46 f28_46 f29_46 f30_46 f31_46 f32_46 f33_46 f34_46 f35_46 f36_46 f37_46 f38_46 f39_46 f40_46 => ?_)
    subst hf9
    have hn9 := fe_qr (hq_46 0 (by decide))
    subst hn9
    have o_b1 := o_v0_46 _ rfl
    obtain rfl := fe_r (hq_46 5 (by decide))
    have hn9 := gI_n hD ((E_20).1 _ _ aa_29) a_r5_46
    subst hn9
    have a_r5_1 := a_r5_46
    obtain rfl := fe_r (hq_46 8 (by decide))
    have hn9 := gI_n hD ((E_20).1 _ _ aa_32) a_r8_46
    subst hn9
    have a_r8_1 := a_r8_46
    obtain rfl := fe_r (hq_46 9 (by decide))
    have hn9 := gI_n hD ((E_20).1 _ _ aa_33) a_r9_46
    subst hn9
    have a_r9_1 := a_r9_46
    obtain rfl := fe_i (hq_46 10 (by decide))
    obtain ⟨fs9, hk_47, hq_47⟩ := ((gF.a (F' := [(3, 1), (3, 2), (3, 3)]) Fr_21 (fun _ h => h))) _ _ _ hk_14
    refine opn_X8 hG hk_47 (fun r0_47 n0_47 r1_47 n1_47 c2_47 r3_47 n3_47 c4_47 r5_47 n5_47 r6_47 n6_47 r7_47 n7_47 r8_47 n8_47 c9_47 c10_47 c11_47 v12_47 v13_47 v14_47 hf9 a_r0_47 f1_47 a_r1_47 f3_47 a_r3_47 f5_47 a_r5_47 f7_47 a_r6_47 f9_47 a_r7_47 f11_47 a_r8_47 f13_47 o_v12_47 o_v13_47 o_v14_47 f17_47 f18_47 f19_47 f20_47 f21_47 f22_47 f23_47 f24_47 f25_47 f26_47 f27_47 f28_47 f29_47 => ?_)
    subst hf9
    obtain rfl := fe_i (hq_47 2 (by decide))
    obtain ⟨k_48, f_48, hk_48⟩ := gI_of a_r3_46
    have aq_49 := B3_n (aC_at hD hk_46 rfl rfl hk_48 xp_24)
    replace aq_49 := hide aq_49
    obtain ⟨k_50, f_50, hk_50⟩ := gI_of a_r2_46
    have aq_51 := S2_n (aC_at hD hk_46 rfl rfl hk_50 xp_25)
    replace aq_51 := hide aq_51
    refine lv_aload_n hx hb dX3_draw_22 rfl (lv_at hl 0 rfl) ?_
    have hFc := gfree hD hS hA
    refine W_led (fun hL0 => ?_)
    refine va_callv (va_runV (As := []) (rest := []) ⟨hx, hb, hml, hown, hts⟩ (m_X3_makeRoom l g H ws_19 h0 hG o_h0 (gP_of hD hk_46 (fun q90 e90 => by cases e90; exact (by first | (have q_aq_49 := Hide.out aq_49; have q_aq_51 := Hide.out aq_51; have g_c1_46 := i_rg c1_46; have g_c2_14 := i_rg c2_14; omega) | (have q_aq_49 := Hide.out aq_49; have q_aq_51 := Hide.out aq_51; have q_f19_14 := Hide.out f19_14; have q_f20_14 := Hide.out f20_14; have q_rv_18 := Hide.out rv_18; have q_f20_47 := Hide.out f20_47; have g_c1_46 := i_rg c1_46; have g_c2_14 := i_rg c2_14; omega) | (have q_aq_49 := Hide.out aq_49; have q_aq_51 := Hide.out aq_51; have q_f19_14 := Hide.out f19_14; have q_f20_14 := Hide.out f20_14; have q_rv_18 := Hide.out rv_18; have q_f20_47 := Hide.out f20_47; have q_f1_14 := Hide.out f1_14; have q_f17_14 := Hide.out f17_14; have q_f18_14 := Hide.out f18_14; have q_f1_47 := Hide.out f1_47; have q_f17_47 := Hide.out f17_47; have q_f18_47 := Hide.out f18_47; have g_c1_46 := i_rg c1_46; have g_c2_14 := i_rg c2_14; omega) | (have q_aq_49 := Hide.out aq_49; have q_aq_51 := Hide.out aq_51; have q_f19_14 := Hide.out f19_14; have q_f20_14 := Hide.out f20_14; have q_rv_18 := Hide.out rv_18; have q_f20_47 := Hide.out f20_47; have q_f1_14 := Hide.out f1_14; have q_f17_14 := Hide.out f17_14; have q_f18_14 := Hide.out f18_14; have q_f1_47 := Hide.out f1_47; have q_f17_47 := Hide.out f17_47; have q_f18_47 := Hide.out f18_47; have q_f3_14 := Hide.out f3_14; have q_f3_47 := Hide.out f3_47; have g_c1_46 := i_rg c1_46; have g_c2_14 := i_rg c2_14; omega))))) (cwV 0 hts (gd_V kw_876 kw_936 kw_937 kw_401 kw_935) rfl rfl rfl (by decide +kernel) ⟨Nat.le_of_ble_eq_true rfl, Nat.le_of_ble_eq_true rfl⟩) ⟨gblindH, va_recv hK hP (ci := 3) (q0 := k_1) rfl hk_46, fun U hU hW9 => gmkH hU hW9 hP hK hD hex hE hS hFc⟩ rfl rfl hl.1 rfl (lv_room (Nat.le_of_ble_eq_true rfl)) dX3_draw_23 ⟨(show 0 + dc_22 + (PC ws_19 + (0)) ≤ PC ws + (0) from (by have e0 : (0 : Int32).toInt = 0 := (by decide); omega)), (show 0 + ds_23 + (PS ws_19 + (0)) ≤ PS ws + (0) from (by have e0 : (0 : Int32).toInt = 0 := (by decide); omega))⟩) hS (fun q _ h => hFc q h) hFc (fun  ws_52 t9 H1 locs ht9 hvm9 hw9 hB9 hz9 hk9 hS => ?_)
    obtain ⟨E_53, Fr_54, hG, hP1, hD1, dc_55, ds_56, hLd, hdc_55, hds_56⟩ := hB9
    rw [ht9] at hLd
    refine W_tight (hL0.tr hLd).1 (hL0.tr hLd).2.1 ?_
    clear hL0 hLd
    have hP : va_P (gD g) cl0 ws_52 H1 := by rw [← ht9]; exact hP1
    have hD : va_D A ws_52 := hD1.weaken (fun _ _ _ h => hFc _ h)
    obtain ⟨kf_57, kf_58, kf_59⟩ := id hw9
    clear hP1 hD1 hz9 hk9 hvm9 ht9 hw9
    generalize H1 = H at hP hS ⊢
    have aa_60 := a_r2_46
    have aa_61 := a_r3_46
    have aa_62 := a_r4_46
    have aa_63 := a_r5_1
    have aa_64 := a_r6_46
    have aa_65 := a_r7_46
    have aa_66 := a_r8_1
    have aa_67 := a_r9_1
    have aa_68 := a_r11_46
    have aa_69 := a_r12_46
    have aa_70 := a_r13_46
    have aa_71 := a_r14_46
    have aa_72 := a_r15_46
    have aa_73 := a_r0_47
    have aa_74 := a_r1_47
    have aa_75 := a_r3_47
    have aa_76 := a_r5_47
    have aa_77 := a_r6_47
    have aa_78 := a_r7_47
    have aa_79 := a_r8_47
    have o_h0 := E_53.1 _ _ o_h0
    have o_b1 := E_53.1 _ _ o_b1
    obtain ⟨fs9, hk_80, hq_80⟩ := ((gF.a (F' := [(3, 4), (3, 6), (3, 8), (3, 9), (3, 10), (3, 11), (3, 12), (3, 13), (3, 14), (3, 15)]) Fr_54 (fun _ h => h))) _ _ _ hk_46
    refine opn_X3 hG hk_80 (fun v0_80 c1_80 r2_80 n2_80 r3_80 n3_80 r4_80 n4_80 r5_80 n5_80 r6_80 n6_80 r7_80 n7_80 r8_80 n8_80 r9_80 n9_80 c10_80 r11_80 n11_80 r12_80 n12_80 r13_80 n13_80 r14_80 n14_80 r15_80 n15_80 hf9 o_v0_80 a_r2_80 f2_80 a_r3_80 f4_80 a_r4_80 f6_80 a_r5_80 f8_80 a_r6_80 f10_80 a_r7_80 f12_80 a_r8_80 f14_80 a_r9_80 f16_80 a_r11_80 f18_80 a_r12_80 f20_80 a_r13_80 f22_80 a_r14_80 f24_80 a_r15_80 f26_80 f27_80 f28_80 f29_80 f30_80 f31_80 f32_80 f33_80 f34_80 f35_80 f36_80 f37_80 f38_80 f39_80 f40_80 => ?_)
    subst hf9
    have hn9 := fe_qr (hq_80 0 (by decide))
    subst hn9
    have o_b1 := o_v0_80 _ rfl
    obtain rfl := fe_i (hq_80 1 (by decide))
    obtain rfl := fe_r (hq_80 2 (by decide))
    have hn9 := gI_n hD ((E_53).1 _ _ aa_60) a_r2_80
    subst hn9
    have a_r2_46 := a_r2_80
    obtain rfl := fe_r (hq_80 3 (by decide))
    have hn9 := gI_n hD ((E_53).1 _ _ aa_61) a_r3_80
    subst hn9
    have a_r3_46 := a_r3_80
    obtain rfl := fe_r (hq_80 5 (by decide))
    have hn9 := gI_n hD ((E_53).1 _ _ aa_63) a_r5_80
    subst hn9
    have a_r5_1 := a_r5_80
    have kq_81 := kf_57 _ _ _ hk_80 _ rfl _ _ rfl a_r8_80
    replace kq_81 := hide kq_81
    have kq_82 := kf_58 _ _ _ hk_80 _ rfl _ rfl
    replace kq_82 := hide kq_82
    have kq_83 := kf_59 _ _ _ hk_80 _ rfl _ rfl _ _ rfl a_r9_80
    replace kq_83 := hide kq_83
    refine lv_aload_n hx hb dX3_draw_26 rfl (lv_at hl 0 rfl) ?_
    obtain ⟨fs9, hk_84, hq_84⟩ := ((gF.a (F' := [(3, 4), (3, 6), (3, 8), (3, 9), (3, 10), (3, 11), (3, 12), (3, 13), (3, 14), (3, 15)]) Fr_54 (fun _ h => h))) _ _ _ hk_47
    refine opn_X8 hG hk_84 (fun r0_84 n0_84 r1_84 n1_84 c2_84 r3_84 n3_84 c4_84 r5_84 n5_84 r6_84 n6_84 r7_84 n7_84 r8_84 n8_84 c9_84 c10_84 c11_84 v12_84 v13_84 v14_84 hf9 a_r0_84 f1_84 a_r1_84 f3_84 a_r3_84 f5_84 a_r5_84 f7_84 a_r6_84 f9_84 a_r7_84 f11_84 a_r8_84 f13_84 o_v12_84 o_v13_84 o_v14_84 f17_84 f18_84 f19_84 f20_84 f21_84 f22_84 f23_84 f24_84 f25_84 f26_84 f27_84 f28_84 f29_84 => ?_)
    subst hf9
    obtain rfl := fe_i (hq_84 2 (by decide))
    have tq_85 : rwG ws_52 h0 := rwG_mo ((gF.tr (gF.mo (F' := [(3, 1), (3, 2), (3, 3), (3, 4), (3, 6), (3, 8), (3, 9), (3, 10), (3, 11), (3, 12), (3, 13), (3, 14), (3, 15)]) (C' := [(3, 2), (3, 3)]) (S' := none) Fr_21 (by decide) (fun _ h => h) (Or.inr rfl)) (gF.mo (F' := [(3, 1), (3, 2), (3, 3), (3, 4), (3, 6), (3, 8), (3, 9), (3, 10), (3, 11), (3, 12), (3, 13), (3, 14), (3, 15)]) (C' := [(3, 2), (3, 3)]) (S' := none) Fr_54 (by decide) (fun _ h => absurd h List.not_mem_nil) (Or.inr rfl)))) (by decide) (by decide) (by decide) (by decide) (by decide) (by decide) (by decide) (by decide) (by decide) tq_13
    have tq_86 : aC3 ws_52 h0 (B3 c2_14.toInt) := aC3_mo (Fr_54) (by decide) (by decide) (by decide) xp_24
    have tq_87 : aC2 ws_52 h0 (S2 c2_14.toInt) := aC2_mo (Fr_54) (by decide) (by decide) (by decide) xp_25
    have hFc := gfree hD hS hA
    refine W_led (fun hL0 => ?_)
    refine va_callv (va_runV (As := []) (rest := []) ⟨hx, hb, hml, hown, hts⟩ (m_X3_findEdges l g H ws_52 h0 (c2_14) hG o_h0 (gN_of hD hk_80 (j := 0) rfl) (gP_of hD hk_80 (fun q90 e90 p91 q91 e91 g91 => by cases e90; cases e91; have z91 := gI_n hD a_r8_80 g91; subst z91; exact (by first | (have q_aq_49 := Hide.out aq_49; have q_aq_51 := Hide.out aq_51; have q_f37_80 := Hide.out f37_80; have q_kq_81 := Hide.out kq_81; have q_kq_82 := Hide.out kq_82; have q_kq_83 := Hide.out kq_83; have g_c10_80 := i_rg c10_80; have g_c1_46 := i_rg c1_46; have g_c2_14 := i_rg c2_14; omega) | (have q_aq_49 := Hide.out aq_49; have q_aq_51 := Hide.out aq_51; have q_f37_80 := Hide.out f37_80; have q_kq_81 := Hide.out kq_81; have q_kq_82 := Hide.out kq_82; have q_kq_83 := Hide.out kq_83; have q_f19_14 := Hide.out f19_14; have q_f20_14 := Hide.out f20_14; have q_rv_18 := Hide.out rv_18; have q_f20_47 := Hide.out f20_47; have q_f40_80 := Hide.out f40_80; have q_f20_84 := Hide.out f20_84; have g_c10_80 := i_rg c10_80; have g_c1_46 := i_rg c1_46; have g_c2_14 := i_rg c2_14; omega) | (have q_aq_49 := Hide.out aq_49; have q_aq_51 := Hide.out aq_51; have q_f37_80 := Hide.out f37_80; have q_kq_81 := Hide.out kq_81; have q_kq_82 := Hide.out kq_82; have q_kq_83 := Hide.out kq_83; have q_f19_14 := Hide.out f19_14; have q_f20_14 := Hide.out f20_14; have q_rv_18 := Hide.out rv_18; have q_f20_47 := Hide.out f20_47; have q_f40_80 := Hide.out f40_80; have q_f20_84 := Hide.out f20_84; have q_f1_14 := Hide.out f1_14; have q_f17_14 := Hide.out f17_14; have q_f18_14 := Hide.out f18_14; have q_f1_47 := Hide.out f1_47; have q_f17_47 := Hide.out f17_47; have q_f18_47 := Hide.out f18_47; have q_f1_84 := Hide.out f1_84; have q_f17_84 := Hide.out f17_84; have q_f18_84 := Hide.out f18_84; have g_c10_80 := i_rg c10_80; have g_c1_46 := i_rg c1_46; have g_c2_14 := i_rg c2_14; omega) | (have q_aq_49 := Hide.out aq_49; have q_aq_51 := Hide.out aq_51; have q_f37_80 := Hide.out f37_80; have q_kq_81 := Hide.out kq_81; have q_kq_82 := Hide.out kq_82; have q_kq_83 := Hide.out kq_83; have q_f19_14 := Hide.out f19_14; have q_f20_14 := Hide.out f20_14; have q_rv_18 := Hide.out rv_18; have q_f20_47 := Hide.out f20_47; have q_f40_80 := Hide.out f40_80; have q_f20_84 := Hide.out f20_84; have q_f1_14 := Hide.out f1_14; have q_f17_14 := Hide.out f17_14; have q_f18_14 := Hide.out f18_14; have q_f1_47 := Hide.out f1_47; have q_f17_47 := Hide.out f17_47; have q_f18_47 := Hide.out f18_47; have q_f1_84 := Hide.out f1_84; have q_f17_84 := Hide.out f17_84; have q_f18_84 := Hide.out f18_84; have q_f3_14 := Hide.out f3_14; have q_f3_47 := Hide.out f3_47; have q_f3_84 := Hide.out f3_84; have g_c10_80 := i_rg c10_80; have g_c1_46 := i_rg c1_46; have g_c2_14 := i_rg c2_14; omega)))) (gP_of hD hk_80 (fun p90 q90 e90 g90 => by cases e90; have z90 := gI_n hD a_r5_1 g90; subst z90; exact (by first | (have q_f35_1 := Hide.out f35_1; have q_f39_1 := Hide.out f39_1; have q_gn_5 := Hide.out gn_5; have g_c1_1 := i_rg c1_1; omega) | (have q_f35_1 := Hide.out f35_1; have q_f39_1 := Hide.out f39_1; have q_gn_5 := Hide.out gn_5; have q_f37_1 := Hide.out f37_1; have g_c1_1 := i_rg c1_1; omega)))) (fun k9 k8 b9 fs gs e1 e2 e3 q0 e40 => by obtain rfl := gO_un hD hk_80 e1; cases e2; obtain rfl := gO_un hD hk_84 e3; cases e40; exact (by first | (have q_f19_14 := Hide.out f19_14; have q_f20_14 := Hide.out f20_14; have q_rv_18 := Hide.out rv_18; have q_f20_47 := Hide.out f20_47; have q_aq_49 := Hide.out aq_49; have q_aq_51 := Hide.out aq_51; have q_f20_84 := Hide.out f20_84; have g_c1_46 := i_rg c1_46; have g_c2_14 := i_rg c2_14; omega) | (have q_f19_14 := Hide.out f19_14; have q_f20_14 := Hide.out f20_14; have q_rv_18 := Hide.out rv_18; have q_f20_47 := Hide.out f20_47; have q_aq_49 := Hide.out aq_49; have q_aq_51 := Hide.out aq_51; have q_f20_84 := Hide.out f20_84; have q_f1_14 := Hide.out f1_14; have q_f17_14 := Hide.out f17_14; have q_f18_14 := Hide.out f18_14; have q_f1_47 := Hide.out f1_47; have q_f17_47 := Hide.out f17_47; have q_f18_47 := Hide.out f18_47; have q_kq_81 := Hide.out kq_81; have q_kq_82 := Hide.out kq_82; have q_kq_83 := Hide.out kq_83; have q_f1_84 := Hide.out f1_84; have q_f17_84 := Hide.out f17_84; have q_f18_84 := Hide.out f18_84; have g_c10_80 := i_rg c10_80; have g_c1_46 := i_rg c1_46; have g_c2_14 := i_rg c2_14; omega) | (have q_f19_14 := Hide.out f19_14; have q_f20_14 := Hide.out f20_14; have q_rv_18 := Hide.out rv_18; have q_f20_47 := Hide.out f20_47; have q_aq_49 := Hide.out aq_49; have q_aq_51 := Hide.out aq_51; have q_f20_84 := Hide.out f20_84; have q_f1_14 := Hide.out f1_14; have q_f17_14 := Hide.out f17_14; have q_f18_14 := Hide.out f18_14; have q_f1_47 := Hide.out f1_47; have q_f17_47 := Hide.out f17_47; have q_f18_47 := Hide.out f18_47; have q_kq_81 := Hide.out kq_81; have q_kq_82 := Hide.out kq_82; have q_kq_83 := Hide.out kq_83; have q_f1_84 := Hide.out f1_84; have q_f17_84 := Hide.out f17_84; have q_f18_84 := Hide.out f18_84; have q_f3_14 := Hide.out f3_14; have q_f3_47 := Hide.out f3_47; have q_f37_80 := Hide.out f37_80; have q_f40_80 := Hide.out f40_80; have q_f3_84 := Hide.out f3_84; have g_c10_80 := i_rg c10_80; have g_c1_46 := i_rg c1_46; have g_c2_14 := i_rg c2_14; omega))) tq_85 tq_86 tq_87) (cwV 0 hts (gd_V kw_877 kw_910 kw_911 kw_401 kw_909) rfl rfl rfl (by decide +kernel) ⟨Nat.le_of_ble_eq_true rfl, Nat.le_of_ble_eq_true rfl⟩) ⟨gblindH, va_recv hK hP (ci := 3) (q0 := k_1) rfl hk_80, fun U hU hW9 => gmkH hU hW9 hP hK hD hex hE hS hFc⟩ rfl rfl hl.1 rfl (lv_room (Nat.le_of_ble_eq_true rfl)) dX3_draw_27 ⟨(show 0 + dc_22 + dc_55 + (PC ws_52 + (0)) ≤ PC ws + (0) from (by have e0 : (0 : Int32).toInt = 0 := (by decide); omega)), (show 0 + ds_23 + ds_56 + (PS ws_52 + (0)) ≤ PS ws + (0) from (by have e0 : (0 : Int32).toInt = 0 := (by decide); omega))⟩) hS (fun q _ h => hFc q h) hFc (fun  ws_88 t9 H1 locs ht9 hvm9 hw9 hB9 hz9 hk9 hS => ?_)
    obtain ⟨E_89, Fr_90, hG, hP1, hD1, dc_91, ds_92, hLd, hdc_91, hds_92⟩ := hB9
    rw [ht9] at hLd
    refine W_tight (hL0.tr hLd).1 (hL0.tr hLd).2.1 ?_
    clear hL0 hLd
    have hP : va_P (gD g) cl0 ws_88 H1 := by rw [← ht9]; exact hP1
    have hD : va_D A ws_88 := hD1.weaken (fun _ _ _ h => hFc _ h)
    obtain ⟨hw9, xp_93⟩ := hw9
    clear hP1 hD1 hz9 hk9 hvm9 ht9 hw9
    generalize H1 = H at hP hS ⊢
    have aa_94 := a_r2_46
    have aa_95 := a_r3_46
    have aa_96 := a_r4_80
    have aa_97 := a_r5_1
    have aa_98 := a_r6_80
    have aa_99 := a_r7_80
    have aa_100 := a_r8_80
    have aa_101 := a_r9_80
    have aa_102 := a_r11_80
    have aa_103 := a_r12_80
    have aa_104 := a_r13_80
    have aa_105 := a_r14_80
    have aa_106 := a_r15_80
    have aa_107 := a_r0_84
    have aa_108 := a_r1_84
    have aa_109 := a_r3_84
    have aa_110 := a_r5_84
    have aa_111 := a_r6_84
    have aa_112 := a_r7_84
    have aa_113 := a_r8_84
    have o_h0 := E_89.1 _ _ o_h0
    have o_b1 := E_89.1 _ _ o_b1
    refine lv_aload_n hx hb dX3_draw_30 rfl (lv_at hl 0 rfl) ?_
    obtain ⟨fs9, hk_114, hq_114⟩ := ((gF.a (F' := [(3, 5)]) Fr_90 (fun _ h => h))) _ _ _ hk_80
    refine opn_X3 hG hk_114 (fun v0_114 c1_114 r2_114 n2_114 r3_114 n3_114 r4_114 n4_114 r5_114 n5_114 r6_114 n6_114 r7_114 n7_114 r8_114 n8_114 r9_114 n9_114 c10_114 r11_114 n11_114 r12_114 n12_114 r13_114 n13_114 r14_114 n14_114 r15_114 n15_114 hf9 o_v0_114 a_r2_114 f2_114 a_r3_114 f4_114 a_r4_114 f6_114 a_r5_114 f8_114 a_r6_114 f10_114 a_r7_114 f12_114 a_r8_114 f14_114 a_r9_114 f16_114 a_r11_114 f18_114 a_r12_114 f20_114 a_r13_114 f22_114 a_r14_114 f24_114 a_r15_114 f26_114 f27_114 f28_114 f29_114 f30_114 f31_114 f32_114 f33_114 f34_114 f35_114 f36_114 f37_114 f38_114 f39_114 f40_114 => ?_)
    subst hf9
    have hn9 := fe_qr (hq_114 0 (by decide))
    subst hn9
    have o_b1 := o_v0_114 _ rfl
    obtain rfl := fe_i (hq_114 1 (by decide))
    obtain rfl := fe_r (hq_114 2 (by decide))
    have hn9 := gI_n hD ((E_89).1 _ _ aa_94) a_r2_114
    subst hn9
    have a_r2_46 := a_r2_114
    obtain rfl := fe_r (hq_114 3 (by decide))
    have hn9 := gI_n hD ((E_89).1 _ _ aa_95) a_r3_114
    subst hn9
    have a_r3_46 := a_r3_114
    obtain rfl := fe_r (hq_114 8 (by decide))
    have hn9 := gI_n hD ((E_89).1 _ _ aa_100) a_r8_114
    subst hn9
    have a_r8_80 := a_r8_114
    obtain rfl := fe_r (hq_114 9 (by decide))
    have hn9 := gI_n hD ((E_89).1 _ _ aa_101) a_r9_114
    subst hn9
    have a_r9_80 := a_r9_114
    obtain rfl := fe_i (hq_114 10 (by decide))
    have hFc := gfree hD hS hA
    refine W_led (fun hL0 => ?_)
    refine va_callv (va_runV (As := []) (rest := []) ⟨hx, hb, hml, hown, hts⟩ (m_X3_findBacks l g H ws_88 h0 hG o_h0 (gP_of hD hk_114 (fun q90 e90 => by cases e90; exact (by first | (have q_aq_49 := Hide.out aq_49; have q_aq_51 := Hide.out aq_51; have q_kq_81 := Hide.out kq_81; have q_kq_82 := Hide.out kq_82; have q_kq_83 := Hide.out kq_83; have g_c10_80 := i_rg c10_80; have g_c1_46 := i_rg c1_46; have g_c2_14 := i_rg c2_14; omega) | (have q_aq_49 := Hide.out aq_49; have q_aq_51 := Hide.out aq_51; have q_kq_81 := Hide.out kq_81; have q_kq_82 := Hide.out kq_82; have q_kq_83 := Hide.out kq_83; have q_f19_14 := Hide.out f19_14; have q_f20_14 := Hide.out f20_14; have q_rv_18 := Hide.out rv_18; have q_f20_47 := Hide.out f20_47; have q_f37_80 := Hide.out f37_80; have q_f40_80 := Hide.out f40_80; have q_f20_84 := Hide.out f20_84; have g_c10_80 := i_rg c10_80; have g_c1_46 := i_rg c1_46; have g_c2_14 := i_rg c2_14; omega) | (have q_aq_49 := Hide.out aq_49; have q_aq_51 := Hide.out aq_51; have q_kq_81 := Hide.out kq_81; have q_kq_82 := Hide.out kq_82; have q_kq_83 := Hide.out kq_83; have q_f19_14 := Hide.out f19_14; have q_f20_14 := Hide.out f20_14; have q_rv_18 := Hide.out rv_18; have q_f20_47 := Hide.out f20_47; have q_f37_80 := Hide.out f37_80; have q_f40_80 := Hide.out f40_80; have q_f20_84 := Hide.out f20_84; have q_f1_14 := Hide.out f1_14; have q_f17_14 := Hide.out f17_14; have q_f18_14 := Hide.out f18_14; have q_f1_47 := Hide.out f1_47; have q_f17_47 := Hide.out f17_47; have q_f18_47 := Hide.out f18_47; have q_f1_84 := Hide.out f1_84; have q_f17_84 := Hide.out f17_84; have q_f18_84 := Hide.out f18_84; have g_c10_80 := i_rg c10_80; have g_c1_46 := i_rg c1_46; have g_c2_14 := i_rg c2_14; omega) | (have q_aq_49 := Hide.out aq_49; have q_aq_51 := Hide.out aq_51; have q_kq_81 := Hide.out kq_81; have q_kq_82 := Hide.out kq_82; have q_kq_83 := Hide.out kq_83; have q_f19_14 := Hide.out f19_14; have q_f20_14 := Hide.out f20_14; have q_rv_18 := Hide.out rv_18; have q_f20_47 := Hide.out f20_47; have q_f37_80 := Hide.out f37_80; have q_f40_80 := Hide.out f40_80; have q_f20_84 := Hide.out f20_84; have q_f1_14 := Hide.out f1_14; have q_f17_14 := Hide.out f17_14; have q_f18_14 := Hide.out f18_14; have q_f1_47 := Hide.out f1_47; have q_f17_47 := Hide.out f17_47; have q_f18_47 := Hide.out f18_47; have q_f1_84 := Hide.out f1_84; have q_f17_84 := Hide.out f17_84; have q_f18_84 := Hide.out f18_84; have q_f3_14 := Hide.out f3_14; have q_f3_47 := Hide.out f3_47; have q_f3_84 := Hide.out f3_84; have g_c10_80 := i_rg c10_80; have g_c1_46 := i_rg c1_46; have g_c2_14 := i_rg c2_14; omega)))) (gP_of hD hk_114 (fun q90 e90 p91 q91 e91 g91 => by cases e90; cases e91; have z91 := gI_n hD a_r8_80 g91; subst z91; exact (by first | (have q_aq_49 := Hide.out aq_49; have q_aq_51 := Hide.out aq_51; have q_f37_80 := Hide.out f37_80; have q_kq_81 := Hide.out kq_81; have q_kq_82 := Hide.out kq_82; have q_kq_83 := Hide.out kq_83; have g_c10_80 := i_rg c10_80; have g_c1_46 := i_rg c1_46; have g_c2_14 := i_rg c2_14; omega) | (have q_aq_49 := Hide.out aq_49; have q_aq_51 := Hide.out aq_51; have q_f37_80 := Hide.out f37_80; have q_kq_81 := Hide.out kq_81; have q_kq_82 := Hide.out kq_82; have q_kq_83 := Hide.out kq_83; have q_f19_14 := Hide.out f19_14; have q_f20_14 := Hide.out f20_14; have q_rv_18 := Hide.out rv_18; have q_f20_47 := Hide.out f20_47; have q_f40_80 := Hide.out f40_80; have q_f20_84 := Hide.out f20_84; have g_c10_80 := i_rg c10_80; have g_c1_46 := i_rg c1_46; have g_c2_14 := i_rg c2_14; omega) | (have q_aq_49 := Hide.out aq_49; have q_aq_51 := Hide.out aq_51; have q_f37_80 := Hide.out f37_80; have q_kq_81 := Hide.out kq_81; have q_kq_82 := Hide.out kq_82; have q_kq_83 := Hide.out kq_83; have q_f19_14 := Hide.out f19_14; have q_f20_14 := Hide.out f20_14; have q_rv_18 := Hide.out rv_18; have q_f20_47 := Hide.out f20_47; have q_f40_80 := Hide.out f40_80; have q_f20_84 := Hide.out f20_84; have q_f1_14 := Hide.out f1_14; have q_f17_14 := Hide.out f17_14; have q_f18_14 := Hide.out f18_14; have q_f1_47 := Hide.out f1_47; have q_f17_47 := Hide.out f17_47; have q_f18_47 := Hide.out f18_47; have q_f1_84 := Hide.out f1_84; have q_f17_84 := Hide.out f17_84; have q_f18_84 := Hide.out f18_84; have g_c10_80 := i_rg c10_80; have g_c1_46 := i_rg c1_46; have g_c2_14 := i_rg c2_14; omega) | (have q_aq_49 := Hide.out aq_49; have q_aq_51 := Hide.out aq_51; have q_f37_80 := Hide.out f37_80; have q_kq_81 := Hide.out kq_81; have q_kq_82 := Hide.out kq_82; have q_kq_83 := Hide.out kq_83; have q_f19_14 := Hide.out f19_14; have q_f20_14 := Hide.out f20_14; have q_rv_18 := Hide.out rv_18; have q_f20_47 := Hide.out f20_47; have q_f40_80 := Hide.out f40_80; have q_f20_84 := Hide.out f20_84; have q_f1_14 := Hide.out f1_14; have q_f17_14 := Hide.out f17_14; have q_f18_14 := Hide.out f18_14; have q_f1_47 := Hide.out f1_47; have q_f17_47 := Hide.out f17_47; have q_f18_47 := Hide.out f18_47; have q_f1_84 := Hide.out f1_84; have q_f17_84 := Hide.out f17_84; have q_f18_84 := Hide.out f18_84; have q_f3_14 := Hide.out f3_14; have q_f3_47 := Hide.out f3_47; have q_f3_84 := Hide.out f3_84; have g_c10_80 := i_rg c10_80; have g_c1_46 := i_rg c1_46; have g_c2_14 := i_rg c2_14; omega)))) xp_93) (cwV 0 hts (gd_V kw_878 kw_883 kw_884 kw_401 kw_882) rfl rfl rfl (by decide +kernel) ⟨Nat.le_of_ble_eq_true rfl, Nat.le_of_ble_eq_true rfl⟩) ⟨gblindH, va_recv hK hP (ci := 3) (q0 := k_1) rfl hk_114, fun U hU hW9 => gmkH hU hW9 hP hK hD hex hE hS hFc⟩ rfl rfl hl.1 rfl (lv_room (Nat.le_of_ble_eq_true rfl)) dX3_draw_31 ⟨(show 0 + dc_22 + dc_55 + dc_91 + (PC ws_88 + (0)) ≤ PC ws + (0) from (by have e0 : (0 : Int32).toInt = 0 := (by decide); omega)), (show 0 + ds_23 + ds_56 + ds_92 + (PS ws_88 + (0)) ≤ PS ws + (0) from (by have e0 : (0 : Int32).toInt = 0 := (by decide); omega))⟩) hS (fun q _ h => hFc q h) hFc (fun  ws_115 t9 H1 locs ht9 hvm9 hw9 hB9 hz9 hk9 hS => ?_)
    obtain ⟨E_116, Fr_117, hG, hP1, hD1, dc_118, ds_119, hLd, hdc_118, hds_119⟩ := hB9
    rw [ht9] at hLd
    refine W_tight (hL0.tr hLd).1 (hL0.tr hLd).2.1 ?_
    clear hL0 hLd
    have hP : va_P (gD g) cl0 ws_115 H1 := by rw [← ht9]; exact hP1
    have hD : va_D A ws_115 := hD1.weaken (fun _ _ _ h => hFc _ h)
    obtain ⟨hw9, xp_120⟩ := hw9
    clear hP1 hD1 hz9 hk9 hvm9 ht9 hw9
    generalize H1 = H at hP hS ⊢
    have aa_121 := a_r2_46
    have aa_122 := a_r3_46
    have aa_123 := a_r4_114
    have aa_124 := a_r5_114
    have aa_125 := a_r6_114
    have aa_126 := a_r7_114
    have aa_127 := a_r8_80
    have aa_128 := a_r9_80
    have aa_129 := a_r11_114
    have aa_130 := a_r12_114
    have aa_131 := a_r13_114
    have aa_132 := a_r14_114
    have aa_133 := a_r15_114
    have o_h0 := E_116.1 _ _ o_h0
    have o_b1 := E_116.1 _ _ o_b1
    refine lv_aload_n hx hb dX3_draw_34 rfl (lv_at hl 0 rfl) ?_
    obtain ⟨fs9, hk_134, hq_134⟩ := ((gF.a (F' := [(3, 7)]) Fr_117 (fun _ h => h))) _ _ _ hk_114
    refine opn_X3 hG hk_134 (fun v0_134 c1_134 r2_134 n2_134 r3_134 n3_134 r4_134 n4_134 r5_134 n5_134 r6_134 n6_134 r7_134 n7_134 r8_134 n8_134 r9_134 n9_134 c10_134 r11_134 n11_134 r12_134 n12_134 r13_134 n13_134 r14_134 n14_134 r15_134 n15_134 hf9 o_v0_134 a_r2_134 f2_134 a_r3_134 f4_134 a_r4_134 f6_134 a_r5_134 f8_134 a_r6_134 f10_134 a_r7_134 f12_134 a_r8_134 f14_134 a_r9_134 f16_134 a_r11_134 f18_134 a_r12_134 f20_134 a_r13_134 f22_134 a_r14_134 f24_134 a_r15_134 f26_134 f27_134 f28_134 f29_134 f30_134 f31_134 f32_134 f33_134 f34_134 f35_134 f36_134 f37_134 f38_134 f39_134 f40_134 => ?_)
    subst hf9
    have hn9 := fe_qr (hq_134 0 (by decide))
    subst hn9
    have o_b1 := o_v0_134 _ rfl
    obtain rfl := fe_i (hq_134 1 (by decide))
    obtain rfl := fe_r (hq_134 2 (by decide))
    have hn9 := gI_n hD ((E_116).1 _ _ aa_121) a_r2_134
    subst hn9
    have a_r2_46 := a_r2_134
    obtain rfl := fe_r (hq_134 3 (by decide))
    have hn9 := gI_n hD ((E_116).1 _ _ aa_122) a_r3_134
    subst hn9
    have a_r3_46 := a_r3_134
    obtain rfl := fe_r (hq_134 5 (by decide))
    have hn9 := gI_n hD ((E_116).1 _ _ aa_124) a_r5_134
    subst hn9
    have a_r5_114 := a_r5_134
    obtain rfl := fe_r (hq_134 8 (by decide))
    have hn9 := gI_n hD ((E_116).1 _ _ aa_127) a_r8_134
    subst hn9
    have a_r8_80 := a_r8_134
    obtain rfl := fe_r (hq_134 9 (by decide))
    have hn9 := gI_n hD ((E_116).1 _ _ aa_128) a_r9_134
    subst hn9
    have a_r9_80 := a_r9_134
    obtain rfl := fe_i (hq_134 10 (by decide))
    have tq_135 : gE2 ws_115 h0 := gE2_mo (Fr_117) (by decide) (by decide) (by decide) (by decide) (by decide) xp_93
    have hFc := gfree hD hS hA
    refine va_callv (va_runV (As := []) (rest := []) ⟨hx, hb, hml, hown, hts⟩ (m_X3_findReached l g H.size ws_115 h0 hG o_h0 (gP_of hD hk_134 (fun q90 e90 => by cases e90; exact (by first | (have q_aq_49 := Hide.out aq_49; have q_aq_51 := Hide.out aq_51; have q_kq_81 := Hide.out kq_81; have q_kq_82 := Hide.out kq_82; have q_kq_83 := Hide.out kq_83; have g_c10_80 := i_rg c10_80; have g_c1_46 := i_rg c1_46; have g_c2_14 := i_rg c2_14; omega) | (have q_aq_49 := Hide.out aq_49; have q_aq_51 := Hide.out aq_51; have q_kq_81 := Hide.out kq_81; have q_kq_82 := Hide.out kq_82; have q_kq_83 := Hide.out kq_83; have q_f19_14 := Hide.out f19_14; have q_f20_14 := Hide.out f20_14; have q_rv_18 := Hide.out rv_18; have q_f20_47 := Hide.out f20_47; have q_f37_80 := Hide.out f37_80; have q_f40_80 := Hide.out f40_80; have q_f20_84 := Hide.out f20_84; have g_c10_80 := i_rg c10_80; have g_c1_46 := i_rg c1_46; have g_c2_14 := i_rg c2_14; omega) | (have q_aq_49 := Hide.out aq_49; have q_aq_51 := Hide.out aq_51; have q_kq_81 := Hide.out kq_81; have q_kq_82 := Hide.out kq_82; have q_kq_83 := Hide.out kq_83; have q_f19_14 := Hide.out f19_14; have q_f20_14 := Hide.out f20_14; have q_rv_18 := Hide.out rv_18; have q_f20_47 := Hide.out f20_47; have q_f37_80 := Hide.out f37_80; have q_f40_80 := Hide.out f40_80; have q_f20_84 := Hide.out f20_84; have q_f1_14 := Hide.out f1_14; have q_f17_14 := Hide.out f17_14; have q_f18_14 := Hide.out f18_14; have q_f1_47 := Hide.out f1_47; have q_f17_47 := Hide.out f17_47; have q_f18_47 := Hide.out f18_47; have q_f1_84 := Hide.out f1_84; have q_f17_84 := Hide.out f17_84; have q_f18_84 := Hide.out f18_84; have g_c10_80 := i_rg c10_80; have g_c1_46 := i_rg c1_46; have g_c2_14 := i_rg c2_14; omega) | (have q_aq_49 := Hide.out aq_49; have q_aq_51 := Hide.out aq_51; have q_kq_81 := Hide.out kq_81; have q_kq_82 := Hide.out kq_82; have q_kq_83 := Hide.out kq_83; have q_f19_14 := Hide.out f19_14; have q_f20_14 := Hide.out f20_14; have q_rv_18 := Hide.out rv_18; have q_f20_47 := Hide.out f20_47; have q_f37_80 := Hide.out f37_80; have q_f40_80 := Hide.out f40_80; have q_f20_84 := Hide.out f20_84; have q_f1_14 := Hide.out f1_14; have q_f17_14 := Hide.out f17_14; have q_f18_14 := Hide.out f18_14; have q_f1_47 := Hide.out f1_47; have q_f17_47 := Hide.out f17_47; have q_f18_47 := Hide.out f18_47; have q_f1_84 := Hide.out f1_84; have q_f17_84 := Hide.out f17_84; have q_f18_84 := Hide.out f18_84; have q_f3_14 := Hide.out f3_14; have q_f3_47 := Hide.out f3_47; have q_f3_84 := Hide.out f3_84; have g_c10_80 := i_rg c10_80; have g_c1_46 := i_rg c1_46; have g_c2_14 := i_rg c2_14; omega)))) (gP_of hD hk_134 (fun q90 e90 p91 q91 e91 g91 => by cases e90; cases e91; have z91 := gI_n hD a_r8_80 g91; subst z91; exact (by first | (have q_aq_49 := Hide.out aq_49; have q_aq_51 := Hide.out aq_51; have q_f37_80 := Hide.out f37_80; have q_kq_81 := Hide.out kq_81; have q_kq_82 := Hide.out kq_82; have q_kq_83 := Hide.out kq_83; have g_c10_80 := i_rg c10_80; have g_c1_46 := i_rg c1_46; have g_c2_14 := i_rg c2_14; omega) | (have q_aq_49 := Hide.out aq_49; have q_aq_51 := Hide.out aq_51; have q_f37_80 := Hide.out f37_80; have q_kq_81 := Hide.out kq_81; have q_kq_82 := Hide.out kq_82; have q_kq_83 := Hide.out kq_83; have q_f19_14 := Hide.out f19_14; have q_f20_14 := Hide.out f20_14; have q_rv_18 := Hide.out rv_18; have q_f20_47 := Hide.out f20_47; have q_f40_80 := Hide.out f40_80; have q_f20_84 := Hide.out f20_84; have g_c10_80 := i_rg c10_80; have g_c1_46 := i_rg c1_46; have g_c2_14 := i_rg c2_14; omega) | (have q_aq_49 := Hide.out aq_49; have q_aq_51 := Hide.out aq_51; have q_f37_80 := Hide.out f37_80; have q_kq_81 := Hide.out kq_81; have q_kq_82 := Hide.out kq_82; have q_kq_83 := Hide.out kq_83; have q_f19_14 := Hide.out f19_14; have q_f20_14 := Hide.out f20_14; have q_rv_18 := Hide.out rv_18; have q_f20_47 := Hide.out f20_47; have q_f40_80 := Hide.out f40_80; have q_f20_84 := Hide.out f20_84; have q_f1_14 := Hide.out f1_14; have q_f17_14 := Hide.out f17_14; have q_f18_14 := Hide.out f18_14; have q_f1_47 := Hide.out f1_47; have q_f17_47 := Hide.out f17_47; have q_f18_47 := Hide.out f18_47; have q_f1_84 := Hide.out f1_84; have q_f17_84 := Hide.out f17_84; have q_f18_84 := Hide.out f18_84; have g_c10_80 := i_rg c10_80; have g_c1_46 := i_rg c1_46; have g_c2_14 := i_rg c2_14; omega) | (have q_aq_49 := Hide.out aq_49; have q_aq_51 := Hide.out aq_51; have q_f37_80 := Hide.out f37_80; have q_kq_81 := Hide.out kq_81; have q_kq_82 := Hide.out kq_82; have q_kq_83 := Hide.out kq_83; have q_f19_14 := Hide.out f19_14; have q_f20_14 := Hide.out f20_14; have q_rv_18 := Hide.out rv_18; have q_f20_47 := Hide.out f20_47; have q_f40_80 := Hide.out f40_80; have q_f20_84 := Hide.out f20_84; have q_f1_14 := Hide.out f1_14; have q_f17_14 := Hide.out f17_14; have q_f18_14 := Hide.out f18_14; have q_f1_47 := Hide.out f1_47; have q_f17_47 := Hide.out f17_47; have q_f18_47 := Hide.out f18_47; have q_f1_84 := Hide.out f1_84; have q_f17_84 := Hide.out f17_84; have q_f18_84 := Hide.out f18_84; have q_f3_14 := Hide.out f3_14; have q_f3_47 := Hide.out f3_47; have q_f3_84 := Hide.out f3_84; have g_c10_80 := i_rg c10_80; have g_c1_46 := i_rg c1_46; have g_c2_14 := i_rg c2_14; omega)))) tq_135) (cwV 0 hts (gd_V kw_879 kw_921 kw_922 kw_401 kw_920) rfl rfl rfl (by decide +kernel) ⟨Nat.le_of_ble_eq_true rfl, Nat.le_of_ble_eq_true rfl⟩) ⟨gblind, va_recv hK hP (ci := 3) (q0 := k_1) rfl hk_134, fun U hU hW9 => gmk hU hW9 hP hK hD hex hE hS hFc⟩ rfl rfl hl.1 rfl (lv_room (Nat.le_of_ble_eq_true rfl)) dX3_draw_35 ⟨(show 0 + dc_22 + dc_55 + dc_91 + dc_118 + 0 ≤ PC ws + (0) from (by omega)), (show 0 + ds_23 + ds_56 + ds_92 + ds_119 + 0 ≤ PS ws + (0) from (by omega))⟩) hS (fun q _ h => hFc q h) hFc (fun  ws_136 t9 H1 locs ht9 hvm9 hw9 hB9 hz9 hk9 hS => ?_)
    obtain ⟨E_137, Fr_138, hG, hP1, hD1⟩ := hB9
    have hP : va_P (gD g) cl0 ws_136 H1 := by rw [← ht9]; exact hP1
    have hD : va_D A ws_136 := hD1.weaken (fun _ _ _ h => hFc _ h)
    clear hP1 hD1 hz9 hk9 hvm9 ht9 hw9
    generalize H1 = H at hP hS ⊢
    have aa_141 := a_r2_46
    have aa_142 := a_r3_46
    have aa_143 := a_r4_134
    have aa_144 := a_r5_114
    have aa_145 := a_r6_134
    have aa_146 := a_r7_134
    have aa_147 := a_r8_80
    have aa_148 := a_r9_80
    have aa_149 := a_r11_134
    have aa_150 := a_r12_134
    have aa_151 := a_r13_134
    have aa_152 := a_r14_134
    have aa_153 := a_r15_134
    have o_h0 := E_137.1 _ _ o_h0
    have o_b1 := E_137.1 _ _ o_b1
    have pp_154 := Fr_138.pp
    refine lv_aload_n hx hb dX3_draw_38 rfl (lv_at hl 0 rfl) ?_
    obtain ⟨fs9, hk_155, hq_155⟩ := ((gF.a (F' := []) Fr_138 (fun _ h => h))) _ _ _ hk_134
    refine opn_X3 hG hk_155 (fun v0_155 c1_155 r2_155 n2_155 r3_155 n3_155 r4_155 n4_155 r5_155 n5_155 r6_155 n6_155 r7_155 n7_155 r8_155 n8_155 r9_155 n9_155 c10_155 r11_155 n11_155 r12_155 n12_155 r13_155 n13_155 r14_155 n14_155 r15_155 n15_155 hf9 o_v0_155 a_r2_155 f2_155 a_r3_155 f4_155 a_r4_155 f6_155 a_r5_155 f8_155 a_r6_155 f10_155 a_r7_155 f12_155 a_r8_155 f14_155 a_r9_155 f16_155 a_r11_155 f18_155 a_r12_155 f20_155 a_r13_155 f22_155 a_r14_155 f24_155 a_r15_155 f26_155 f27_155 f28_155 f29_155 f30_155 f31_155 f32_155 f33_155 f34_155 f35_155 f36_155 f37_155 f38_155 f39_155 f40_155 => ?_)
    subst hf9
    have hn9 := fe_qr (hq_155 0 (by decide))
    subst hn9
    have o_b1 := o_v0_155 _ rfl
    obtain rfl := fe_i (hq_155 1 (by decide))
    obtain rfl := fe_r (hq_155 2 (by decide))
    have hn9 := gI_n hD ((E_137).1 _ _ aa_141) a_r2_155
    subst hn9
    have a_r2_46 := a_r2_155
    obtain rfl := fe_r (hq_155 3 (by decide))
    have hn9 := gI_n hD ((E_137).1 _ _ aa_142) a_r3_155
    subst hn9
    have a_r3_46 := a_r3_155
    obtain rfl := fe_r (hq_155 5 (by decide))
    have hn9 := gI_n hD ((E_137).1 _ _ aa_144) a_r5_155
    subst hn9
    have a_r5_114 := a_r5_155
    obtain rfl := fe_r (hq_155 8 (by decide))
    have hn9 := gI_n hD ((E_137).1 _ _ aa_147) a_r8_155
    subst hn9
    have a_r8_80 := a_r8_155
    obtain rfl := fe_r (hq_155 9 (by decide))
    have hn9 := gI_n hD ((E_137).1 _ _ aa_148) a_r9_155
    subst hn9
    have a_r9_80 := a_r9_155
    obtain rfl := fe_i (hq_155 10 (by decide))
    have tq_156 : gE2 ws_136 h0 := gE2_mo (Fr_138) (by decide) (by decide) (by decide) (by decide) (by decide) tq_135
    have hFc := gfree hD hS hA
    refine va_callv (va_runV (As := []) (rest := []) ⟨hx, hb, hml, hown, hts⟩ (m_X3_findDominators l g H.size ws_136 h0 hG o_h0 (gP_of hD hk_155 (fun q90 e90 => by cases e90; exact (by first | (have q_aq_49 := Hide.out aq_49; have q_aq_51 := Hide.out aq_51; have q_kq_81 := Hide.out kq_81; have q_kq_82 := Hide.out kq_82; have q_kq_83 := Hide.out kq_83; have g_c10_80 := i_rg c10_80; have g_c1_46 := i_rg c1_46; have g_c2_14 := i_rg c2_14; omega) | (have q_aq_49 := Hide.out aq_49; have q_aq_51 := Hide.out aq_51; have q_kq_81 := Hide.out kq_81; have q_kq_82 := Hide.out kq_82; have q_kq_83 := Hide.out kq_83; have q_f19_14 := Hide.out f19_14; have q_f20_14 := Hide.out f20_14; have q_rv_18 := Hide.out rv_18; have q_f20_47 := Hide.out f20_47; have q_f37_80 := Hide.out f37_80; have q_f40_80 := Hide.out f40_80; have q_f20_84 := Hide.out f20_84; have g_c10_80 := i_rg c10_80; have g_c1_46 := i_rg c1_46; have g_c2_14 := i_rg c2_14; omega) | (have q_aq_49 := Hide.out aq_49; have q_aq_51 := Hide.out aq_51; have q_kq_81 := Hide.out kq_81; have q_kq_82 := Hide.out kq_82; have q_kq_83 := Hide.out kq_83; have q_f19_14 := Hide.out f19_14; have q_f20_14 := Hide.out f20_14; have q_rv_18 := Hide.out rv_18; have q_f20_47 := Hide.out f20_47; have q_f37_80 := Hide.out f37_80; have q_f40_80 := Hide.out f40_80; have q_f20_84 := Hide.out f20_84; have q_f1_14 := Hide.out f1_14; have q_f17_14 := Hide.out f17_14; have q_f18_14 := Hide.out f18_14; have q_f1_47 := Hide.out f1_47; have q_f17_47 := Hide.out f17_47; have q_f18_47 := Hide.out f18_47; have q_f1_84 := Hide.out f1_84; have q_f17_84 := Hide.out f17_84; have q_f18_84 := Hide.out f18_84; have g_c10_80 := i_rg c10_80; have g_c1_46 := i_rg c1_46; have g_c2_14 := i_rg c2_14; omega) | (have q_aq_49 := Hide.out aq_49; have q_aq_51 := Hide.out aq_51; have q_kq_81 := Hide.out kq_81; have q_kq_82 := Hide.out kq_82; have q_kq_83 := Hide.out kq_83; have q_f19_14 := Hide.out f19_14; have q_f20_14 := Hide.out f20_14; have q_rv_18 := Hide.out rv_18; have q_f20_47 := Hide.out f20_47; have q_f37_80 := Hide.out f37_80; have q_f40_80 := Hide.out f40_80; have q_f20_84 := Hide.out f20_84; have q_f1_14 := Hide.out f1_14; have q_f17_14 := Hide.out f17_14; have q_f18_14 := Hide.out f18_14; have q_f1_47 := Hide.out f1_47; have q_f17_47 := Hide.out f17_47; have q_f18_47 := Hide.out f18_47; have q_f1_84 := Hide.out f1_84; have q_f17_84 := Hide.out f17_84; have q_f18_84 := Hide.out f18_84; have q_f3_14 := Hide.out f3_14; have q_f3_47 := Hide.out f3_47; have q_f3_84 := Hide.out f3_84; have g_c10_80 := i_rg c10_80; have g_c1_46 := i_rg c1_46; have g_c2_14 := i_rg c2_14; omega)))) (gP_of hD hk_155 (fun q90 e90 p91 q91 e91 g91 => by cases e90; cases e91; have z91 := gI_n hD a_r8_80 g91; subst z91; exact (by first | (have q_aq_49 := Hide.out aq_49; have q_aq_51 := Hide.out aq_51; have q_f37_80 := Hide.out f37_80; have q_kq_81 := Hide.out kq_81; have q_kq_82 := Hide.out kq_82; have q_kq_83 := Hide.out kq_83; have g_c10_80 := i_rg c10_80; have g_c1_46 := i_rg c1_46; have g_c2_14 := i_rg c2_14; omega) | (have q_aq_49 := Hide.out aq_49; have q_aq_51 := Hide.out aq_51; have q_f37_80 := Hide.out f37_80; have q_kq_81 := Hide.out kq_81; have q_kq_82 := Hide.out kq_82; have q_kq_83 := Hide.out kq_83; have q_f19_14 := Hide.out f19_14; have q_f20_14 := Hide.out f20_14; have q_rv_18 := Hide.out rv_18; have q_f20_47 := Hide.out f20_47; have q_f40_80 := Hide.out f40_80; have q_f20_84 := Hide.out f20_84; have g_c10_80 := i_rg c10_80; have g_c1_46 := i_rg c1_46; have g_c2_14 := i_rg c2_14; omega) | (have q_aq_49 := Hide.out aq_49; have q_aq_51 := Hide.out aq_51; have q_f37_80 := Hide.out f37_80; have q_kq_81 := Hide.out kq_81; have q_kq_82 := Hide.out kq_82; have q_kq_83 := Hide.out kq_83; have q_f19_14 := Hide.out f19_14; have q_f20_14 := Hide.out f20_14; have q_rv_18 := Hide.out rv_18; have q_f20_47 := Hide.out f20_47; have q_f40_80 := Hide.out f40_80; have q_f20_84 := Hide.out f20_84; have q_f1_14 := Hide.out f1_14; have q_f17_14 := Hide.out f17_14; have q_f18_14 := Hide.out f18_14; have q_f1_47 := Hide.out f1_47; have q_f17_47 := Hide.out f17_47; have q_f18_47 := Hide.out f18_47; have q_f1_84 := Hide.out f1_84; have q_f17_84 := Hide.out f17_84; have q_f18_84 := Hide.out f18_84; have g_c10_80 := i_rg c10_80; have g_c1_46 := i_rg c1_46; have g_c2_14 := i_rg c2_14; omega) | (have q_aq_49 := Hide.out aq_49; have q_aq_51 := Hide.out aq_51; have q_f37_80 := Hide.out f37_80; have q_kq_81 := Hide.out kq_81; have q_kq_82 := Hide.out kq_82; have q_kq_83 := Hide.out kq_83; have q_f19_14 := Hide.out f19_14; have q_f20_14 := Hide.out f20_14; have q_rv_18 := Hide.out rv_18; have q_f20_47 := Hide.out f20_47; have q_f40_80 := Hide.out f40_80; have q_f20_84 := Hide.out f20_84; have q_f1_14 := Hide.out f1_14; have q_f17_14 := Hide.out f17_14; have q_f18_14 := Hide.out f18_14; have q_f1_47 := Hide.out f1_47; have q_f17_47 := Hide.out f17_47; have q_f18_47 := Hide.out f18_47; have q_f1_84 := Hide.out f1_84; have q_f17_84 := Hide.out f17_84; have q_f18_84 := Hide.out f18_84; have q_f3_14 := Hide.out f3_14; have q_f3_47 := Hide.out f3_47; have q_f3_84 := Hide.out f3_84; have g_c10_80 := i_rg c10_80; have g_c1_46 := i_rg c1_46; have g_c2_14 := i_rg c2_14; omega)))) (gP_of hD hk_155 (fun q90 e90 q91 e91 => by cases e90; cases e91; exact (by first | (have q_aq_49 := Hide.out aq_49; have q_aq_51 := Hide.out aq_51; have q_kq_81 := Hide.out kq_81; have q_kq_82 := Hide.out kq_82; have q_kq_83 := Hide.out kq_83; have g_c10_80 := i_rg c10_80; have g_c1_46 := i_rg c1_46; have g_c2_14 := i_rg c2_14; omega) | (have q_aq_49 := Hide.out aq_49; have q_aq_51 := Hide.out aq_51; have q_kq_81 := Hide.out kq_81; have q_kq_82 := Hide.out kq_82; have q_kq_83 := Hide.out kq_83; have q_f19_14 := Hide.out f19_14; have q_f20_14 := Hide.out f20_14; have q_rv_18 := Hide.out rv_18; have q_f20_47 := Hide.out f20_47; have q_f37_80 := Hide.out f37_80; have q_f40_80 := Hide.out f40_80; have q_f20_84 := Hide.out f20_84; have g_c10_80 := i_rg c10_80; have g_c1_46 := i_rg c1_46; have g_c2_14 := i_rg c2_14; omega) | (have q_aq_49 := Hide.out aq_49; have q_aq_51 := Hide.out aq_51; have q_kq_81 := Hide.out kq_81; have q_kq_82 := Hide.out kq_82; have q_kq_83 := Hide.out kq_83; have q_f19_14 := Hide.out f19_14; have q_f20_14 := Hide.out f20_14; have q_rv_18 := Hide.out rv_18; have q_f20_47 := Hide.out f20_47; have q_f37_80 := Hide.out f37_80; have q_f40_80 := Hide.out f40_80; have q_f20_84 := Hide.out f20_84; have q_f1_14 := Hide.out f1_14; have q_f17_14 := Hide.out f17_14; have q_f18_14 := Hide.out f18_14; have q_f1_47 := Hide.out f1_47; have q_f17_47 := Hide.out f17_47; have q_f18_47 := Hide.out f18_47; have q_f1_84 := Hide.out f1_84; have q_f17_84 := Hide.out f17_84; have q_f18_84 := Hide.out f18_84; have g_c10_80 := i_rg c10_80; have g_c1_46 := i_rg c1_46; have g_c2_14 := i_rg c2_14; omega) | (have q_aq_49 := Hide.out aq_49; have q_aq_51 := Hide.out aq_51; have q_kq_81 := Hide.out kq_81; have q_kq_82 := Hide.out kq_82; have q_kq_83 := Hide.out kq_83; have q_f19_14 := Hide.out f19_14; have q_f20_14 := Hide.out f20_14; have q_rv_18 := Hide.out rv_18; have q_f20_47 := Hide.out f20_47; have q_f37_80 := Hide.out f37_80; have q_f40_80 := Hide.out f40_80; have q_f20_84 := Hide.out f20_84; have q_f1_14 := Hide.out f1_14; have q_f17_14 := Hide.out f17_14; have q_f18_14 := Hide.out f18_14; have q_f1_47 := Hide.out f1_47; have q_f17_47 := Hide.out f17_47; have q_f18_47 := Hide.out f18_47; have q_f1_84 := Hide.out f1_84; have q_f17_84 := Hide.out f17_84; have q_f18_84 := Hide.out f18_84; have q_f3_14 := Hide.out f3_14; have q_f3_47 := Hide.out f3_47; have q_f3_84 := Hide.out f3_84; have g_c10_80 := i_rg c10_80; have g_c1_46 := i_rg c1_46; have g_c2_14 := i_rg c2_14; omega)))) (gP_of hD hk_155 (fun q90 e90 q91 e91 p92 q92 e92 g92 => by cases e90; cases e91; cases e92; have z92 := gI_n hD a_r9_80 g92; subst z92; exact (by first | (have q_aq_49 := Hide.out aq_49; have q_aq_51 := Hide.out aq_51; have q_f40_80 := Hide.out f40_80; have q_kq_81 := Hide.out kq_81; have q_kq_82 := Hide.out kq_82; have q_kq_83 := Hide.out kq_83; have g_c10_80 := i_rg c10_80; have g_c1_46 := i_rg c1_46; have g_c2_14 := i_rg c2_14; omega) | (have q_aq_49 := Hide.out aq_49; have q_aq_51 := Hide.out aq_51; have q_f40_80 := Hide.out f40_80; have q_kq_81 := Hide.out kq_81; have q_kq_82 := Hide.out kq_82; have q_kq_83 := Hide.out kq_83; have q_f19_14 := Hide.out f19_14; have q_f20_14 := Hide.out f20_14; have q_rv_18 := Hide.out rv_18; have q_f20_47 := Hide.out f20_47; have q_f37_80 := Hide.out f37_80; have q_f20_84 := Hide.out f20_84; have g_c10_80 := i_rg c10_80; have g_c1_46 := i_rg c1_46; have g_c2_14 := i_rg c2_14; omega) | (have q_aq_49 := Hide.out aq_49; have q_aq_51 := Hide.out aq_51; have q_f40_80 := Hide.out f40_80; have q_kq_81 := Hide.out kq_81; have q_kq_82 := Hide.out kq_82; have q_kq_83 := Hide.out kq_83; have q_f19_14 := Hide.out f19_14; have q_f20_14 := Hide.out f20_14; have q_rv_18 := Hide.out rv_18; have q_f20_47 := Hide.out f20_47; have q_f37_80 := Hide.out f37_80; have q_f20_84 := Hide.out f20_84; have q_f1_14 := Hide.out f1_14; have q_f17_14 := Hide.out f17_14; have q_f18_14 := Hide.out f18_14; have q_f1_47 := Hide.out f1_47; have q_f17_47 := Hide.out f17_47; have q_f18_47 := Hide.out f18_47; have q_f1_84 := Hide.out f1_84; have q_f17_84 := Hide.out f17_84; have q_f18_84 := Hide.out f18_84; have g_c10_80 := i_rg c10_80; have g_c1_46 := i_rg c1_46; have g_c2_14 := i_rg c2_14; omega) | (have q_aq_49 := Hide.out aq_49; have q_aq_51 := Hide.out aq_51; have q_f40_80 := Hide.out f40_80; have q_kq_81 := Hide.out kq_81; have q_kq_82 := Hide.out kq_82; have q_kq_83 := Hide.out kq_83; have q_f19_14 := Hide.out f19_14; have q_f20_14 := Hide.out f20_14; have q_rv_18 := Hide.out rv_18; have q_f20_47 := Hide.out f20_47; have q_f37_80 := Hide.out f37_80; have q_f20_84 := Hide.out f20_84; have q_f1_14 := Hide.out f1_14; have q_f17_14 := Hide.out f17_14; have q_f18_14 := Hide.out f18_14; have q_f1_47 := Hide.out f1_47; have q_f17_47 := Hide.out f17_47; have q_f18_47 := Hide.out f18_47; have q_f1_84 := Hide.out f1_84; have q_f17_84 := Hide.out f17_84; have q_f18_84 := Hide.out f18_84; have q_f3_14 := Hide.out f3_14; have q_f3_47 := Hide.out f3_47; have q_f3_84 := Hide.out f3_84; have g_c10_80 := i_rg c10_80; have g_c1_46 := i_rg c1_46; have g_c2_14 := i_rg c2_14; omega)))) tq_156) (cwV 0 hts (gd_V kw_880 kw_901 kw_902 kw_401 kw_900) rfl rfl rfl (by decide +kernel) ⟨Nat.le_of_ble_eq_true rfl, Nat.le_of_ble_eq_true rfl⟩) ⟨gblind, va_recv hK hP (ci := 3) (q0 := k_1) rfl hk_155, fun U hU hW9 => gmk hU hW9 hP hK hD hex hE hS hFc⟩ rfl rfl hl.1 rfl (lv_room (Nat.le_of_ble_eq_true rfl)) dX3_draw_39 ⟨(show 0 + dc_22 + dc_55 + dc_91 + dc_118 + 0 ≤ PC ws + (0) from (by omega)), (show 0 + ds_23 + ds_56 + ds_92 + ds_119 + 0 ≤ PS ws + (0) from (by omega))⟩) hS (fun q _ h => hFc q h) hFc (fun  ws_157 t9 H1 locs ht9 hvm9 hw9 hB9 hz9 hk9 hS => ?_)
    obtain ⟨E_158, Fr_159, hG, hP1, hD1⟩ := hB9
    have hP : va_P (gD g) cl0 ws_157 H1 := by rw [← ht9]; exact hP1
    have hD : va_D A ws_157 := hD1.weaken (fun _ _ _ h => hFc _ h)
    clear hP1 hD1 hz9 hk9 hvm9 ht9 hw9
    generalize H1 = H at hP hS ⊢
    have aa_162 := a_r2_46
    have aa_163 := a_r3_46
    have aa_164 := a_r4_155
    have aa_165 := a_r5_114
    have aa_166 := a_r6_155
    have aa_167 := a_r7_155
    have aa_168 := a_r8_80
    have aa_169 := a_r9_80
    have aa_170 := a_r11_155
    have aa_171 := a_r12_155
    have aa_172 := a_r13_155
    have aa_173 := a_r14_155
    have aa_174 := a_r15_155
    have o_h0 := E_158.1 _ _ o_h0
    have o_b1 := E_158.1 _ _ o_b1
    have pp_175 := Fr_159.pp
    refine lv_aload_n hx hb dX3_draw_42 rfl (lv_at hl 0 rfl) ?_
    obtain ⟨fs9, hk_176, hq_176⟩ := ((gF.a (F' := []) Fr_159 (fun _ h => h))) _ _ _ hk_155
    refine opn_X3 hG hk_176 (fun v0_176 c1_176 r2_176 n2_176 r3_176 n3_176 r4_176 n4_176 r5_176 n5_176 r6_176 n6_176 r7_176 n7_176 r8_176 n8_176 r9_176 n9_176 c10_176 r11_176 n11_176 r12_176 n12_176 r13_176 n13_176 r14_176 n14_176 r15_176 n15_176 hf9 o_v0_176 a_r2_176 f2_176 a_r3_176 f4_176 a_r4_176 f6_176 a_r5_176 f8_176 a_r6_176 f10_176 a_r7_176 f12_176 a_r8_176 f14_176 a_r9_176 f16_176 a_r11_176 f18_176 a_r12_176 f20_176 a_r13_176 f22_176 a_r14_176 f24_176 a_r15_176 f26_176 f27_176 f28_176 f29_176 f30_176 f31_176 f32_176 f33_176 f34_176 f35_176 f36_176 f37_176 f38_176 f39_176 f40_176 => ?_)
    subst hf9
    have hn9 := fe_qr (hq_176 0 (by decide))
    subst hn9
    have o_b1 := o_v0_176 _ rfl
    obtain rfl := fe_i (hq_176 1 (by decide))
    obtain rfl := fe_r (hq_176 2 (by decide))
    have hn9 := gI_n hD ((E_158).1 _ _ aa_162) a_r2_176
    subst hn9
    have a_r2_46 := a_r2_176
    obtain rfl := fe_r (hq_176 3 (by decide))
    have hn9 := gI_n hD ((E_158).1 _ _ aa_163) a_r3_176
    subst hn9
    have a_r3_46 := a_r3_176
    obtain rfl := fe_r (hq_176 5 (by decide))
    have hn9 := gI_n hD ((E_158).1 _ _ aa_165) a_r5_176
    subst hn9
    have a_r5_114 := a_r5_176
    obtain rfl := fe_r (hq_176 8 (by decide))
    have hn9 := gI_n hD ((E_158).1 _ _ aa_168) a_r8_176
    subst hn9
    have a_r8_80 := a_r8_176
    obtain rfl := fe_r (hq_176 9 (by decide))
    have hn9 := gI_n hD ((E_158).1 _ _ aa_169) a_r9_176
    subst hn9
    have a_r9_80 := a_r9_176
    obtain rfl := fe_i (hq_176 10 (by decide))
    have tq_177 : gB2 ws_157 h0 := gB2_mo ((gF.tr (gF.mo (F' := []) (C' := [(3, 8), (3, 9), (3, 11), (3, 15)]) (S' := none) Fr_138 (fun _ h => h) (by decide) (Or.inr rfl)) (gF.mo (F' := []) (C' := [(3, 8), (3, 9), (3, 11), (3, 15)]) (S' := none) Fr_159 (fun _ h => h) (by decide) (Or.inr rfl)))) (by decide) (by decide) (by decide) (by decide) (by decide) xp_120
    have hFc := gfree hD hS hA
    refine va_callv (va_runV (As := []) (rest := []) ⟨hx, hb, hml, hown, hts⟩ (m_X3_findLoops l g H.size ws_157 h0 hG o_h0 (gP_of hD hk_176 (fun q90 e90 => by cases e90; exact (by first | (have q_aq_49 := Hide.out aq_49; have q_aq_51 := Hide.out aq_51; have q_kq_81 := Hide.out kq_81; have q_kq_82 := Hide.out kq_82; have q_kq_83 := Hide.out kq_83; have g_c10_80 := i_rg c10_80; have g_c1_46 := i_rg c1_46; have g_c2_14 := i_rg c2_14; omega) | (have q_aq_49 := Hide.out aq_49; have q_aq_51 := Hide.out aq_51; have q_kq_81 := Hide.out kq_81; have q_kq_82 := Hide.out kq_82; have q_kq_83 := Hide.out kq_83; have q_f19_14 := Hide.out f19_14; have q_f20_14 := Hide.out f20_14; have q_rv_18 := Hide.out rv_18; have q_f20_47 := Hide.out f20_47; have q_f37_80 := Hide.out f37_80; have q_f40_80 := Hide.out f40_80; have q_f20_84 := Hide.out f20_84; have g_c10_80 := i_rg c10_80; have g_c1_46 := i_rg c1_46; have g_c2_14 := i_rg c2_14; omega) | (have q_aq_49 := Hide.out aq_49; have q_aq_51 := Hide.out aq_51; have q_kq_81 := Hide.out kq_81; have q_kq_82 := Hide.out kq_82; have q_kq_83 := Hide.out kq_83; have q_f19_14 := Hide.out f19_14; have q_f20_14 := Hide.out f20_14; have q_rv_18 := Hide.out rv_18; have q_f20_47 := Hide.out f20_47; have q_f37_80 := Hide.out f37_80; have q_f40_80 := Hide.out f40_80; have q_f20_84 := Hide.out f20_84; have q_f1_14 := Hide.out f1_14; have q_f17_14 := Hide.out f17_14; have q_f18_14 := Hide.out f18_14; have q_f1_47 := Hide.out f1_47; have q_f17_47 := Hide.out f17_47; have q_f18_47 := Hide.out f18_47; have q_f1_84 := Hide.out f1_84; have q_f17_84 := Hide.out f17_84; have q_f18_84 := Hide.out f18_84; have g_c10_80 := i_rg c10_80; have g_c1_46 := i_rg c1_46; have g_c2_14 := i_rg c2_14; omega) | (have q_aq_49 := Hide.out aq_49; have q_aq_51 := Hide.out aq_51; have q_kq_81 := Hide.out kq_81; have q_kq_82 := Hide.out kq_82; have q_kq_83 := Hide.out kq_83; have q_f19_14 := Hide.out f19_14; have q_f20_14 := Hide.out f20_14; have q_rv_18 := Hide.out rv_18; have q_f20_47 := Hide.out f20_47; have q_f37_80 := Hide.out f37_80; have q_f40_80 := Hide.out f40_80; have q_f20_84 := Hide.out f20_84; have q_f1_14 := Hide.out f1_14; have q_f17_14 := Hide.out f17_14; have q_f18_14 := Hide.out f18_14; have q_f1_47 := Hide.out f1_47; have q_f17_47 := Hide.out f17_47; have q_f18_47 := Hide.out f18_47; have q_f1_84 := Hide.out f1_84; have q_f17_84 := Hide.out f17_84; have q_f18_84 := Hide.out f18_84; have q_f3_14 := Hide.out f3_14; have q_f3_47 := Hide.out f3_47; have q_f3_84 := Hide.out f3_84; have g_c10_80 := i_rg c10_80; have g_c1_46 := i_rg c1_46; have g_c2_14 := i_rg c2_14; omega)))) (gP_of hD hk_176 (fun q90 e90 p91 q91 e91 g91 => by cases e90; cases e91; have z91 := gI_n hD a_r8_80 g91; subst z91; exact (by first | (have q_aq_49 := Hide.out aq_49; have q_aq_51 := Hide.out aq_51; have q_f37_80 := Hide.out f37_80; have q_kq_81 := Hide.out kq_81; have q_kq_82 := Hide.out kq_82; have q_kq_83 := Hide.out kq_83; have g_c10_80 := i_rg c10_80; have g_c1_46 := i_rg c1_46; have g_c2_14 := i_rg c2_14; omega) | (have q_aq_49 := Hide.out aq_49; have q_aq_51 := Hide.out aq_51; have q_f37_80 := Hide.out f37_80; have q_kq_81 := Hide.out kq_81; have q_kq_82 := Hide.out kq_82; have q_kq_83 := Hide.out kq_83; have q_f19_14 := Hide.out f19_14; have q_f20_14 := Hide.out f20_14; have q_rv_18 := Hide.out rv_18; have q_f20_47 := Hide.out f20_47; have q_f40_80 := Hide.out f40_80; have q_f20_84 := Hide.out f20_84; have g_c10_80 := i_rg c10_80; have g_c1_46 := i_rg c1_46; have g_c2_14 := i_rg c2_14; omega) | (have q_aq_49 := Hide.out aq_49; have q_aq_51 := Hide.out aq_51; have q_f37_80 := Hide.out f37_80; have q_kq_81 := Hide.out kq_81; have q_kq_82 := Hide.out kq_82; have q_kq_83 := Hide.out kq_83; have q_f19_14 := Hide.out f19_14; have q_f20_14 := Hide.out f20_14; have q_rv_18 := Hide.out rv_18; have q_f20_47 := Hide.out f20_47; have q_f40_80 := Hide.out f40_80; have q_f20_84 := Hide.out f20_84; have q_f1_14 := Hide.out f1_14; have q_f17_14 := Hide.out f17_14; have q_f18_14 := Hide.out f18_14; have q_f1_47 := Hide.out f1_47; have q_f17_47 := Hide.out f17_47; have q_f18_47 := Hide.out f18_47; have q_f1_84 := Hide.out f1_84; have q_f17_84 := Hide.out f17_84; have q_f18_84 := Hide.out f18_84; have g_c10_80 := i_rg c10_80; have g_c1_46 := i_rg c1_46; have g_c2_14 := i_rg c2_14; omega) | (have q_aq_49 := Hide.out aq_49; have q_aq_51 := Hide.out aq_51; have q_f37_80 := Hide.out f37_80; have q_kq_81 := Hide.out kq_81; have q_kq_82 := Hide.out kq_82; have q_kq_83 := Hide.out kq_83; have q_f19_14 := Hide.out f19_14; have q_f20_14 := Hide.out f20_14; have q_rv_18 := Hide.out rv_18; have q_f20_47 := Hide.out f20_47; have q_f40_80 := Hide.out f40_80; have q_f20_84 := Hide.out f20_84; have q_f1_14 := Hide.out f1_14; have q_f17_14 := Hide.out f17_14; have q_f18_14 := Hide.out f18_14; have q_f1_47 := Hide.out f1_47; have q_f17_47 := Hide.out f17_47; have q_f18_47 := Hide.out f18_47; have q_f1_84 := Hide.out f1_84; have q_f17_84 := Hide.out f17_84; have q_f18_84 := Hide.out f18_84; have q_f3_14 := Hide.out f3_14; have q_f3_47 := Hide.out f3_47; have q_f3_84 := Hide.out f3_84; have g_c10_80 := i_rg c10_80; have g_c1_46 := i_rg c1_46; have g_c2_14 := i_rg c2_14; omega)))) (gP_of hD hk_176 (fun q90 e90 q91 e91 => by cases e90; cases e91; exact (by first | (have q_aq_49 := Hide.out aq_49; have q_aq_51 := Hide.out aq_51; have q_kq_81 := Hide.out kq_81; have q_kq_82 := Hide.out kq_82; have q_kq_83 := Hide.out kq_83; have g_c10_80 := i_rg c10_80; have g_c1_46 := i_rg c1_46; have g_c2_14 := i_rg c2_14; omega) | (have q_aq_49 := Hide.out aq_49; have q_aq_51 := Hide.out aq_51; have q_kq_81 := Hide.out kq_81; have q_kq_82 := Hide.out kq_82; have q_kq_83 := Hide.out kq_83; have q_f19_14 := Hide.out f19_14; have q_f20_14 := Hide.out f20_14; have q_rv_18 := Hide.out rv_18; have q_f20_47 := Hide.out f20_47; have q_f37_80 := Hide.out f37_80; have q_f40_80 := Hide.out f40_80; have q_f20_84 := Hide.out f20_84; have g_c10_80 := i_rg c10_80; have g_c1_46 := i_rg c1_46; have g_c2_14 := i_rg c2_14; omega) | (have q_aq_49 := Hide.out aq_49; have q_aq_51 := Hide.out aq_51; have q_kq_81 := Hide.out kq_81; have q_kq_82 := Hide.out kq_82; have q_kq_83 := Hide.out kq_83; have q_f19_14 := Hide.out f19_14; have q_f20_14 := Hide.out f20_14; have q_rv_18 := Hide.out rv_18; have q_f20_47 := Hide.out f20_47; have q_f37_80 := Hide.out f37_80; have q_f40_80 := Hide.out f40_80; have q_f20_84 := Hide.out f20_84; have q_f1_14 := Hide.out f1_14; have q_f17_14 := Hide.out f17_14; have q_f18_14 := Hide.out f18_14; have q_f1_47 := Hide.out f1_47; have q_f17_47 := Hide.out f17_47; have q_f18_47 := Hide.out f18_47; have q_f1_84 := Hide.out f1_84; have q_f17_84 := Hide.out f17_84; have q_f18_84 := Hide.out f18_84; have g_c10_80 := i_rg c10_80; have g_c1_46 := i_rg c1_46; have g_c2_14 := i_rg c2_14; omega) | (have q_aq_49 := Hide.out aq_49; have q_aq_51 := Hide.out aq_51; have q_kq_81 := Hide.out kq_81; have q_kq_82 := Hide.out kq_82; have q_kq_83 := Hide.out kq_83; have q_f19_14 := Hide.out f19_14; have q_f20_14 := Hide.out f20_14; have q_rv_18 := Hide.out rv_18; have q_f20_47 := Hide.out f20_47; have q_f37_80 := Hide.out f37_80; have q_f40_80 := Hide.out f40_80; have q_f20_84 := Hide.out f20_84; have q_f1_14 := Hide.out f1_14; have q_f17_14 := Hide.out f17_14; have q_f18_14 := Hide.out f18_14; have q_f1_47 := Hide.out f1_47; have q_f17_47 := Hide.out f17_47; have q_f18_47 := Hide.out f18_47; have q_f1_84 := Hide.out f1_84; have q_f17_84 := Hide.out f17_84; have q_f18_84 := Hide.out f18_84; have q_f3_14 := Hide.out f3_14; have q_f3_47 := Hide.out f3_47; have q_f3_84 := Hide.out f3_84; have g_c10_80 := i_rg c10_80; have g_c1_46 := i_rg c1_46; have g_c2_14 := i_rg c2_14; omega)))) (gP_of hD hk_176 (fun q90 e90 q91 e91 p92 q92 e92 g92 => by cases e90; cases e91; cases e92; have z92 := gI_n hD a_r9_80 g92; subst z92; exact (by first | (have q_aq_49 := Hide.out aq_49; have q_aq_51 := Hide.out aq_51; have q_f40_80 := Hide.out f40_80; have q_kq_81 := Hide.out kq_81; have q_kq_82 := Hide.out kq_82; have q_kq_83 := Hide.out kq_83; have g_c10_80 := i_rg c10_80; have g_c1_46 := i_rg c1_46; have g_c2_14 := i_rg c2_14; omega) | (have q_aq_49 := Hide.out aq_49; have q_aq_51 := Hide.out aq_51; have q_f40_80 := Hide.out f40_80; have q_kq_81 := Hide.out kq_81; have q_kq_82 := Hide.out kq_82; have q_kq_83 := Hide.out kq_83; have q_f19_14 := Hide.out f19_14; have q_f20_14 := Hide.out f20_14; have q_rv_18 := Hide.out rv_18; have q_f20_47 := Hide.out f20_47; have q_f37_80 := Hide.out f37_80; have q_f20_84 := Hide.out f20_84; have g_c10_80 := i_rg c10_80; have g_c1_46 := i_rg c1_46; have g_c2_14 := i_rg c2_14; omega) | (have q_aq_49 := Hide.out aq_49; have q_aq_51 := Hide.out aq_51; have q_f40_80 := Hide.out f40_80; have q_kq_81 := Hide.out kq_81; have q_kq_82 := Hide.out kq_82; have q_kq_83 := Hide.out kq_83; have q_f19_14 := Hide.out f19_14; have q_f20_14 := Hide.out f20_14; have q_rv_18 := Hide.out rv_18; have q_f20_47 := Hide.out f20_47; have q_f37_80 := Hide.out f37_80; have q_f20_84 := Hide.out f20_84; have q_f1_14 := Hide.out f1_14; have q_f17_14 := Hide.out f17_14; have q_f18_14 := Hide.out f18_14; have q_f1_47 := Hide.out f1_47; have q_f17_47 := Hide.out f17_47; have q_f18_47 := Hide.out f18_47; have q_f1_84 := Hide.out f1_84; have q_f17_84 := Hide.out f17_84; have q_f18_84 := Hide.out f18_84; have g_c10_80 := i_rg c10_80; have g_c1_46 := i_rg c1_46; have g_c2_14 := i_rg c2_14; omega) | (have q_aq_49 := Hide.out aq_49; have q_aq_51 := Hide.out aq_51; have q_f40_80 := Hide.out f40_80; have q_kq_81 := Hide.out kq_81; have q_kq_82 := Hide.out kq_82; have q_kq_83 := Hide.out kq_83; have q_f19_14 := Hide.out f19_14; have q_f20_14 := Hide.out f20_14; have q_rv_18 := Hide.out rv_18; have q_f20_47 := Hide.out f20_47; have q_f37_80 := Hide.out f37_80; have q_f20_84 := Hide.out f20_84; have q_f1_14 := Hide.out f1_14; have q_f17_14 := Hide.out f17_14; have q_f18_14 := Hide.out f18_14; have q_f1_47 := Hide.out f1_47; have q_f17_47 := Hide.out f17_47; have q_f18_47 := Hide.out f18_47; have q_f1_84 := Hide.out f1_84; have q_f17_84 := Hide.out f17_84; have q_f18_84 := Hide.out f18_84; have q_f3_14 := Hide.out f3_14; have q_f3_47 := Hide.out f3_47; have q_f3_84 := Hide.out f3_84; have g_c10_80 := i_rg c10_80; have g_c1_46 := i_rg c1_46; have g_c2_14 := i_rg c2_14; omega)))) tq_177) (cwV 0 hts (gd_V kw_881 kw_916 kw_917 kw_401 kw_915) rfl rfl rfl (by decide +kernel) ⟨Nat.le_of_ble_eq_true rfl, Nat.le_of_ble_eq_true rfl⟩) ⟨gblind, va_recv hK hP (ci := 3) (q0 := k_1) rfl hk_176, fun U hU hW9 => gmk hU hW9 hP hK hD hex hE hS hFc⟩ rfl rfl hl.1 rfl (lv_room (Nat.le_of_ble_eq_true rfl)) dX3_draw_43 ⟨(show 0 + dc_22 + dc_55 + dc_91 + dc_118 + 0 ≤ PC ws + (0) from (by omega)), (show 0 + ds_23 + ds_56 + ds_92 + ds_119 + 0 ≤ PS ws + (0) from (by omega))⟩) hS (fun q _ h => hFc q h) hFc (fun  ws_178 t9 H1 locs ht9 hvm9 hw9 hB9 hz9 hk9 hS => ?_)
    obtain ⟨E_179, Fr_180, hG, hP1, hD1⟩ := hB9
    have hP : va_P (gD g) cl0 ws_178 H1 := by rw [← ht9]; exact hP1
    have hD : va_D A ws_178 := hD1.weaken (fun _ _ _ h => hFc _ h)
    clear hP1 hD1 hz9 hk9 hvm9 ht9 hw9
    generalize H1 = H at hP hS ⊢
    have aa_183 := a_r2_46
    have aa_184 := a_r3_46
    have aa_185 := a_r4_176
    have aa_186 := a_r5_114
    have aa_187 := a_r6_176
    have aa_188 := a_r7_176
    have aa_189 := a_r8_80
    have aa_190 := a_r9_80
    have aa_191 := a_r11_176
    have aa_192 := a_r12_176
    have aa_193 := a_r13_176
    have aa_194 := a_r14_176
    have aa_195 := a_r15_176
    have o_h0 := E_179.1 _ _ o_h0
    have o_b1 := E_179.1 _ _ o_b1
    have pp_196 := Fr_180.pp
    have tq_197 : gE2 ws_178 h0 := gE2_mo ((gF.tr (gF.mo (F' := []) (C' := [(3, 9), (3, 11), (3, 12), (3, 13), (3, 14), (3, 15)]) (S' := none) Fr_159 (fun _ h => h) (by decide) (Or.inr rfl)) (gF.mo (F' := []) (C' := [(3, 9), (3, 11), (3, 12), (3, 13), (3, 14), (3, 15)]) (S' := none) Fr_180 (fun _ h => h) (by decide) (Or.inr rfl)))) (by decide) (by decide) (by decide) (by decide) (by decide) tq_156
    obtain ⟨N_gE2, hN_gE21, hN_gE22⟩ := id tq_197
    obtain ⟨fs9, hk_198, hq_198⟩ := ((gF.a (F' := []) Fr_180 (fun _ h => h))) _ _ _ hk_176
    refine opn_X3 hG hk_198 (fun v0_198 c1_198 r2_198 n2_198 r3_198 n3_198 r4_198 n4_198 r5_198 n5_198 r6_198 n6_198 r7_198 n7_198 r8_198 n8_198 r9_198 n9_198 c10_198 r11_198 n11_198 r12_198 n12_198 r13_198 n13_198 r14_198 n14_198 r15_198 n15_198 hf9 o_v0_198 a_r2_198 f2_198 a_r3_198 f4_198 a_r4_198 f6_198 a_r5_198 f8_198 a_r6_198 f10_198 a_r7_198 f12_198 a_r8_198 f14_198 a_r9_198 f16_198 a_r11_198 f18_198 a_r12_198 f20_198 a_r13_198 f22_198 a_r14_198 f24_198 a_r15_198 f26_198 f27_198 f28_198 f29_198 f30_198 f31_198 f32_198 f33_198 f34_198 f35_198 f36_198 f37_198 f38_198 f39_198 f40_198 => ?_)
    subst hf9
    have hn9 := fe_qr (hq_198 0 (by decide))
    subst hn9
    have o_b1 := o_v0_198 _ rfl
    obtain rfl := fe_i (hq_198 1 (by decide))
    obtain rfl := fe_r (hq_198 2 (by decide))
    have hn9 := gI_n hD ((E_179).1 _ _ aa_183) a_r2_198
    subst hn9
    have a_r2_46 := a_r2_198
    obtain rfl := fe_r (hq_198 3 (by decide))
    have hn9 := gI_n hD ((E_179).1 _ _ aa_184) a_r3_198
    subst hn9
    have a_r3_46 := a_r3_198
    obtain rfl := fe_r (hq_198 5 (by decide))
    have hn9 := gI_n hD ((E_179).1 _ _ aa_186) a_r5_198
    subst hn9
    have a_r5_114 := a_r5_198
    obtain rfl := fe_r (hq_198 8 (by decide))
    have hn9 := gI_n hD ((E_179).1 _ _ aa_189) a_r8_198
    subst hn9
    have a_r8_80 := a_r8_198
    obtain rfl := fe_r (hq_198 9 (by decide))
    have hn9 := gI_n hD ((E_179).1 _ _ aa_190) a_r9_198
    subst hn9
    have a_r9_80 := a_r9_198
    obtain rfl := fe_i (hq_198 10 (by decide))
    obtain ⟨k_199, f_199, hk_199⟩ := gI_of a_r4_198
    obtain ⟨k_200, f_200, hk_200⟩ := gI_of a_r5_114
    obtain ⟨k_201, f_201, hk_201⟩ := gI_of a_r2_46
    obtain ⟨k_202, f_202, hk_202⟩ := gI_of a_r8_80
    have tq_203 : grR ws_178 h0 := ⟨N_gE2, aC_of hk_198 rfl rfl hk_199 (Or.inr ((aC_at hD hk_198 rfl rfl hk_199 hN_gE21).w (by first | (have q_aq_49 := Hide.out aq_49; have q_aq_51 := Hide.out aq_51; have q_kq_81 := Hide.out kq_81; have q_kq_82 := Hide.out kq_82; have q_kq_83 := Hide.out kq_83; have g_c10_80 := i_rg c10_80; have g_c1_46 := i_rg c1_46; have g_c2_14 := i_rg c2_14; omega) | (have q_aq_49 := Hide.out aq_49; have q_aq_51 := Hide.out aq_51; have q_kq_81 := Hide.out kq_81; have q_kq_82 := Hide.out kq_82; have q_kq_83 := Hide.out kq_83; have q_f19_14 := Hide.out f19_14; have q_f20_14 := Hide.out f20_14; have q_rv_18 := Hide.out rv_18; have q_f20_47 := Hide.out f20_47; have q_f37_80 := Hide.out f37_80; have q_f40_80 := Hide.out f40_80; have q_f20_84 := Hide.out f20_84; have g_c10_80 := i_rg c10_80; have g_c1_46 := i_rg c1_46; have g_c2_14 := i_rg c2_14; omega) | (have q_aq_49 := Hide.out aq_49; have q_aq_51 := Hide.out aq_51; have q_kq_81 := Hide.out kq_81; have q_kq_82 := Hide.out kq_82; have q_kq_83 := Hide.out kq_83; have q_f19_14 := Hide.out f19_14; have q_f20_14 := Hide.out f20_14; have q_rv_18 := Hide.out rv_18; have q_f20_47 := Hide.out f20_47; have q_f37_80 := Hide.out f37_80; have q_f40_80 := Hide.out f40_80; have q_f20_84 := Hide.out f20_84; have q_f1_14 := Hide.out f1_14; have q_f17_14 := Hide.out f17_14; have q_f18_14 := Hide.out f18_14; have q_f1_47 := Hide.out f1_47; have q_f17_47 := Hide.out f17_47; have q_f18_47 := Hide.out f18_47; have q_f1_84 := Hide.out f1_84; have q_f17_84 := Hide.out f17_84; have q_f18_84 := Hide.out f18_84; have g_c10_80 := i_rg c10_80; have g_c1_46 := i_rg c1_46; have g_c2_14 := i_rg c2_14; omega) | (have q_aq_49 := Hide.out aq_49; have q_aq_51 := Hide.out aq_51; have q_kq_81 := Hide.out kq_81; have q_kq_82 := Hide.out kq_82; have q_kq_83 := Hide.out kq_83; have q_f19_14 := Hide.out f19_14; have q_f20_14 := Hide.out f20_14; have q_rv_18 := Hide.out rv_18; have q_f20_47 := Hide.out f20_47; have q_f37_80 := Hide.out f37_80; have q_f40_80 := Hide.out f40_80; have q_f20_84 := Hide.out f20_84; have q_f1_14 := Hide.out f1_14; have q_f17_14 := Hide.out f17_14; have q_f18_14 := Hide.out f18_14; have q_f1_47 := Hide.out f1_47; have q_f17_47 := Hide.out f17_47; have q_f18_47 := Hide.out f18_47; have q_f1_84 := Hide.out f1_84; have q_f17_84 := Hide.out f17_84; have q_f18_84 := Hide.out f18_84; have q_f3_14 := Hide.out f3_14; have q_f3_47 := Hide.out f3_47; have q_f3_84 := Hide.out f3_84; have g_c10_80 := i_rg c10_80; have g_c1_46 := i_rg c1_46; have g_c2_14 := i_rg c2_14; omega)))), aC_of hk_198 rfl rfl hk_200 ⟨(aC_at hD hk_198 rfl rfl hk_200 hN_gE22).2.1, (aC_at hD hk_198 rfl rfl hk_200 hN_gE22).2.2.2.1⟩, aC_of hk_198 rfl rfl hk_201 (show _ ≤ _ from (by first | (have q_aq_49 := Hide.out aq_49; have q_aq_51 := Hide.out aq_51; have q_kq_81 := Hide.out kq_81; have q_kq_82 := Hide.out kq_82; have q_kq_83 := Hide.out kq_83; have g_c10_80 := i_rg c10_80; have g_c1_46 := i_rg c1_46; have g_c2_14 := i_rg c2_14; omega) | (have q_aq_49 := Hide.out aq_49; have q_aq_51 := Hide.out aq_51; have q_kq_81 := Hide.out kq_81; have q_kq_82 := Hide.out kq_82; have q_kq_83 := Hide.out kq_83; have q_f19_14 := Hide.out f19_14; have q_f20_14 := Hide.out f20_14; have q_rv_18 := Hide.out rv_18; have q_f20_47 := Hide.out f20_47; have q_f37_80 := Hide.out f37_80; have q_f40_80 := Hide.out f40_80; have q_f20_84 := Hide.out f20_84; have g_c10_80 := i_rg c10_80; have g_c1_46 := i_rg c1_46; have g_c2_14 := i_rg c2_14; omega) | (have q_aq_49 := Hide.out aq_49; have q_aq_51 := Hide.out aq_51; have q_kq_81 := Hide.out kq_81; have q_kq_82 := Hide.out kq_82; have q_kq_83 := Hide.out kq_83; have q_f19_14 := Hide.out f19_14; have q_f20_14 := Hide.out f20_14; have q_rv_18 := Hide.out rv_18; have q_f20_47 := Hide.out f20_47; have q_f37_80 := Hide.out f37_80; have q_f40_80 := Hide.out f40_80; have q_f20_84 := Hide.out f20_84; have q_f1_14 := Hide.out f1_14; have q_f17_14 := Hide.out f17_14; have q_f18_14 := Hide.out f18_14; have q_f1_47 := Hide.out f1_47; have q_f17_47 := Hide.out f17_47; have q_f18_47 := Hide.out f18_47; have q_f1_84 := Hide.out f1_84; have q_f17_84 := Hide.out f17_84; have q_f18_84 := Hide.out f18_84; have g_c10_80 := i_rg c10_80; have g_c1_46 := i_rg c1_46; have g_c2_14 := i_rg c2_14; omega) | (have q_aq_49 := Hide.out aq_49; have q_aq_51 := Hide.out aq_51; have q_kq_81 := Hide.out kq_81; have q_kq_82 := Hide.out kq_82; have q_kq_83 := Hide.out kq_83; have q_f19_14 := Hide.out f19_14; have q_f20_14 := Hide.out f20_14; have q_rv_18 := Hide.out rv_18; have q_f20_47 := Hide.out f20_47; have q_f37_80 := Hide.out f37_80; have q_f40_80 := Hide.out f40_80; have q_f20_84 := Hide.out f20_84; have q_f1_14 := Hide.out f1_14; have q_f17_14 := Hide.out f17_14; have q_f18_14 := Hide.out f18_14; have q_f1_47 := Hide.out f1_47; have q_f17_47 := Hide.out f17_47; have q_f18_47 := Hide.out f18_47; have q_f1_84 := Hide.out f1_84; have q_f17_84 := Hide.out f17_84; have q_f18_84 := Hide.out f18_84; have q_f3_14 := Hide.out f3_14; have q_f3_47 := Hide.out f3_47; have q_f3_84 := Hide.out f3_84; have g_c10_80 := i_rg c10_80; have g_c1_46 := i_rg c1_46; have g_c2_14 := i_rg c2_14; omega))), aC_of hk_198 rfl rfl hk_202 (show _ ≤ _ from (by first | (have q_aq_49 := Hide.out aq_49; have q_aq_51 := Hide.out aq_51; have q_f37_80 := Hide.out f37_80; have q_kq_81 := Hide.out kq_81; have q_kq_82 := Hide.out kq_82; have q_kq_83 := Hide.out kq_83; have g_c10_80 := i_rg c10_80; have g_c1_46 := i_rg c1_46; have g_c2_14 := i_rg c2_14; omega) | (have q_aq_49 := Hide.out aq_49; have q_aq_51 := Hide.out aq_51; have q_f37_80 := Hide.out f37_80; have q_kq_81 := Hide.out kq_81; have q_kq_82 := Hide.out kq_82; have q_kq_83 := Hide.out kq_83; have q_f19_14 := Hide.out f19_14; have q_f20_14 := Hide.out f20_14; have q_rv_18 := Hide.out rv_18; have q_f20_47 := Hide.out f20_47; have q_f40_80 := Hide.out f40_80; have q_f20_84 := Hide.out f20_84; have g_c10_80 := i_rg c10_80; have g_c1_46 := i_rg c1_46; have g_c2_14 := i_rg c2_14; omega) | (have q_aq_49 := Hide.out aq_49; have q_aq_51 := Hide.out aq_51; have q_f37_80 := Hide.out f37_80; have q_kq_81 := Hide.out kq_81; have q_kq_82 := Hide.out kq_82; have q_kq_83 := Hide.out kq_83; have q_f19_14 := Hide.out f19_14; have q_f20_14 := Hide.out f20_14; have q_rv_18 := Hide.out rv_18; have q_f20_47 := Hide.out f20_47; have q_f40_80 := Hide.out f40_80; have q_f20_84 := Hide.out f20_84; have q_f1_14 := Hide.out f1_14; have q_f17_14 := Hide.out f17_14; have q_f18_14 := Hide.out f18_14; have q_f1_47 := Hide.out f1_47; have q_f17_47 := Hide.out f17_47; have q_f18_47 := Hide.out f18_47; have q_f1_84 := Hide.out f1_84; have q_f17_84 := Hide.out f17_84; have q_f18_84 := Hide.out f18_84; have g_c10_80 := i_rg c10_80; have g_c1_46 := i_rg c1_46; have g_c2_14 := i_rg c2_14; omega) | (have q_aq_49 := Hide.out aq_49; have q_aq_51 := Hide.out aq_51; have q_f37_80 := Hide.out f37_80; have q_kq_81 := Hide.out kq_81; have q_kq_82 := Hide.out kq_82; have q_kq_83 := Hide.out kq_83; have q_f19_14 := Hide.out f19_14; have q_f20_14 := Hide.out f20_14; have q_rv_18 := Hide.out rv_18; have q_f20_47 := Hide.out f20_47; have q_f40_80 := Hide.out f40_80; have q_f20_84 := Hide.out f20_84; have q_f1_14 := Hide.out f1_14; have q_f17_14 := Hide.out f17_14; have q_f18_14 := Hide.out f18_14; have q_f1_47 := Hide.out f1_47; have q_f17_47 := Hide.out f17_47; have q_f18_47 := Hide.out f18_47; have q_f1_84 := Hide.out f1_84; have q_f17_84 := Hide.out f17_84; have q_f18_84 := Hide.out f18_84; have q_f3_14 := Hide.out f3_14; have q_f3_47 := Hide.out f3_47; have q_f3_84 := Hide.out f3_84; have g_c10_80 := i_rg c10_80; have g_c1_46 := i_rg c1_46; have g_c2_14 := i_rg c2_14; omega)))⟩
    refine W_led (fun hLd => ?_)
    have hcl : 0 + dc_22 + dc_55 + dc_91 + dc_118 + PC ws_178 ≤ PC ws + (0) := (by omega)
    have hsl : 0 + ds_23 + ds_56 + ds_92 + ds_119 + PS ws_178 ≤ PS ws + (0) := (by omega)
    refine W.widen (k := PC ws + (0)) (n := PS ws + (0)) (by omega) (by omega) ?_
    exact W.vret hx hb hr (fun t9 ht9 hW9 => ⟨⟨ws_178, rfl, ⟨trivial, (gN_of hD hk_198 (j := 0) rfl), tq_203⟩, ⟨(E_9.tr (E_20.tr (E_53.tr (E_89.tr (E_116.tr (E_137.tr (E_158.tr E_179))))))), (gF.tr (gF.mo (F' := [(3, 0), (3, 1), (3, 2), (3, 3), (3, 4), (3, 5), (3, 6), (3, 7), (3, 8), (3, 9), (3, 10), (3, 11), (3, 12), (3, 13), (3, 14), (3, 15)]) (C' := [(3, 2), (3, 3), (3, 4), (3, 5), (3, 6), (3, 7), (3, 8), (3, 9), (3, 11), (3, 12), (3, 13), (3, 14), (3, 15)]) (S' := none) Fr_10 (by decide) (fun _ h => absurd h List.not_mem_nil) (Or.inl rfl)) (gF.tr (gF.mo (F' := [(3, 0), (3, 1), (3, 2), (3, 3), (3, 4), (3, 5), (3, 6), (3, 7), (3, 8), (3, 9), (3, 10), (3, 11), (3, 12), (3, 13), (3, 14), (3, 15)]) (C' := [(3, 2), (3, 3), (3, 4), (3, 5), (3, 6), (3, 7), (3, 8), (3, 9), (3, 11), (3, 12), (3, 13), (3, 14), (3, 15)]) (S' := none) Fr_21 (by decide) (by decide) (Or.inr rfl)) (gF.tr (gF.mo (F' := [(3, 0), (3, 1), (3, 2), (3, 3), (3, 4), (3, 5), (3, 6), (3, 7), (3, 8), (3, 9), (3, 10), (3, 11), (3, 12), (3, 13), (3, 14), (3, 15)]) (C' := [(3, 2), (3, 3), (3, 4), (3, 5), (3, 6), (3, 7), (3, 8), (3, 9), (3, 11), (3, 12), (3, 13), (3, 14), (3, 15)]) (S' := none) Fr_54 (by decide) (fun _ h => absurd h List.not_mem_nil) (Or.inr rfl)) (gF.tr (gF.mo (F' := [(3, 0), (3, 1), (3, 2), (3, 3), (3, 4), (3, 5), (3, 6), (3, 7), (3, 8), (3, 9), (3, 10), (3, 11), (3, 12), (3, 13), (3, 14), (3, 15)]) (C' := [(3, 2), (3, 3), (3, 4), (3, 5), (3, 6), (3, 7), (3, 8), (3, 9), (3, 11), (3, 12), (3, 13), (3, 14), (3, 15)]) (S' := none) Fr_90 (by decide) (by decide) (Or.inr rfl)) (gF.tr (gF.mo (F' := [(3, 0), (3, 1), (3, 2), (3, 3), (3, 4), (3, 5), (3, 6), (3, 7), (3, 8), (3, 9), (3, 10), (3, 11), (3, 12), (3, 13), (3, 14), (3, 15)]) (C' := [(3, 2), (3, 3), (3, 4), (3, 5), (3, 6), (3, 7), (3, 8), (3, 9), (3, 11), (3, 12), (3, 13), (3, 14), (3, 15)]) (S' := none) Fr_117 (by decide) (by decide) (Or.inr rfl)) (gF.tr (gF.mo (F' := [(3, 0), (3, 1), (3, 2), (3, 3), (3, 4), (3, 5), (3, 6), (3, 7), (3, 8), (3, 9), (3, 10), (3, 11), (3, 12), (3, 13), (3, 14), (3, 15)]) (C' := [(3, 2), (3, 3), (3, 4), (3, 5), (3, 6), (3, 7), (3, 8), (3, 9), (3, 11), (3, 12), (3, 13), (3, 14), (3, 15)]) (S' := none) Fr_138 (fun _ h => absurd h List.not_mem_nil) (by decide) (Or.inr rfl)) (gF.tr (gF.mo (F' := [(3, 0), (3, 1), (3, 2), (3, 3), (3, 4), (3, 5), (3, 6), (3, 7), (3, 8), (3, 9), (3, 10), (3, 11), (3, 12), (3, 13), (3, 14), (3, 15)]) (C' := [(3, 2), (3, 3), (3, 4), (3, 5), (3, 6), (3, 7), (3, 8), (3, 9), (3, 11), (3, 12), (3, 13), (3, 14), (3, 15)]) (S' := none) Fr_159 (fun _ h => absurd h List.not_mem_nil) (by decide) (Or.inr rfl)) (gF.mo (F' := [(3, 0), (3, 1), (3, 2), (3, 3), (3, 4), (3, 5), (3, 6), (3, 7), (3, 8), (3, 9), (3, 10), (3, 11), (3, 12), (3, 13), (3, 14), (3, 15)]) (C' := [(3, 2), (3, 3), (3, 4), (3, 5), (3, 6), (3, 7), (3, 8), (3, 9), (3, 11), (3, 12), (3, 13), (3, 14), (3, 15)]) (S' := none) Fr_180 (fun _ h => absurd h List.not_mem_nil) (by decide) (Or.inr rfl))))))))), hG, by rw [ht9]; exact hP, hD, _, _, by rw [ht9]; exact hLd, hcl, hsl⟩⟩, hS.F ht9⟩) hS.2.2 dX3_draw_46
  · have o_b_6 := o_v0_1 _ rfl
    refine lv_acmp_ne (rx := (some b1)) (ry := (some b_6)) (tgt := 13) hx hb dX3_draw_9 (by decide) (fun _ => ?_) (fun _ => ?_)
    · refine lv_aload_n hx hb dX3_draw_13 rfl (lv_at hl 0 rfl) ?_
      refine lv_aload_n hx hb dX3_draw_14 rfl (lv_at hl 1 rfl) ?_
      have hV9 : okv ws 3 0 (.ref b1) := (okv_o hD o_b1)
      refine va_put (D := gD g) (ci := 3) (v := .ref b1) (ty := (.object "CodeFoundry$Row")) (C := RX3) (T := TX3) (N := 16) hx hb hts inX3 tyX3 tyX3_ok nmX3 hown hK hP hD hS k_1 hk_1 rfl 0 (by decide) (hts _ kw_836) (fun _ h9 => h9) rfl (by decide +kernel) rfl rfl (Nat.le_of_ble_eq_true rfl) dX3_draw_15 (fun H locs hP hD hS => ?_)
      have hi_204 : invX3 g ws h0 [.ref b1, .int c1_1, .ref r2_1, .ref r3_1, .ref r4_1, .ref r5_1, .ref r6_1, .ref r7_1, .ref r8_1, .ref r9_1, .int c10_1, .ref r11_1, .ref r12_1, .ref r13_1, .ref r14_1, .ref r15_1] := ⟨(some b1), (c1_1), r2_1, (n2_1), r3_1, (n3_1), r4_1, (n4_1), r5_1, (n5_1), r6_1, (n6_1), r7_1, (n7_1), r8_1, (n8_1), r9_1, (n9_1), (c10_1), r11_1, (n11_1), r12_1, (n12_1), r13_1, (n13_1), r14_1, (n14_1), r15_1, (n15_1), rfl, (fun b h9 => by cases h9; exact o_b1), a_r2_1, f2_1, a_r3_1, f4_1, a_r4_1, f6_1, a_r5_1, f8_1, a_r6_1, f10_1, a_r7_1, f12_1, a_r8_1, f14_1, a_r9_1, f16_1, a_r11_1, f18_1, a_r12_1, f20_1, a_r13_1, f22_1, a_r14_1, f24_1, a_r15_1, f26_1, f27_1, f28_1, f29_1, f30_1, f31_1, f32_1, f33_1, f34_1, f35_1, f36_1, f37_1, f38_1, f39_1, f40_1, trivial⟩
      obtain ⟨ws_205, e_ws_205⟩ : ∃ z, z = ws.set k_1 (h0, .inr (3, [.ref b1, .int c1_1, .ref r2_1, .ref r3_1, .ref r4_1, .ref r5_1, .ref r6_1, .ref r7_1, .ref r8_1, .ref r9_1, .int c10_1, .ref r11_1, .ref r12_1, .ref r13_1, .ref r14_1, .ref r15_1])) := ⟨_, rfl⟩
      have hP : va_P (gD g) cl0 ws_205 H := by rw [e_ws_205]; exact hP
      have hD : va_D A ws_205 := by rw [e_ws_205]; exact hD
      have E_206 : gE ws ws_205 := gE_set e_ws_205 hk_1 (cw_o (fi := 0) (v := .ref b1) rfl (by decide))
      have hG : Good g ws_205 := Good_set (fi := 0) (v := .ref b1) e_ws_205 hk_1 E_206 rfl hV9 hG (ivX3 hi_204)
      have Fr_207 : gF [(3, 0)] [] (some h0) ws ws_205 := gF_put (fi := 0) (v := .ref b1) e_ws_205 hk_1 rfl (by decide)
      have pp_208 := Fr_207.pp
      have hkN := gset_self e_ws_205 hk_1
      have hk_2 := gset_obI e_ws_205 hk_1 hk_2
      have hk_3 := gset_obI e_ws_205 hk_1 hk_3
      have hk_4 := gset_obI e_ws_205 hk_1 hk_4
      have hk_1 := hkN
      have o_h0 := E_206.1 _ _ o_h0
      have o_b1 := E_206.1 _ _ o_b1
      have a_r2_1 := E_206.1 _ _ a_r2_1
      have a_r3_1 := E_206.1 _ _ a_r3_1
      have a_r4_1 := E_206.1 _ _ a_r4_1
      have a_r5_1 := E_206.1 _ _ a_r5_1
      have a_r6_1 := E_206.1 _ _ a_r6_1
      have a_r7_1 := E_206.1 _ _ a_r7_1
      have a_r8_1 := E_206.1 _ _ a_r8_1
      have a_r9_1 := E_206.1 _ _ a_r9_1
      have a_r11_1 := E_206.1 _ _ a_r11_1
      have a_r12_1 := E_206.1 _ _ a_r12_1
      have a_r13_1 := E_206.1 _ _ a_r13_1
      have a_r14_1 := E_206.1 _ _ a_r14_1
      have a_r15_1 := E_206.1 _ _ a_r15_1
      have tq_209 : rowC ws_205 b1 RV := rowC_mo ((gF.mo (F' := [(3, 0)]) (C' := []) (S' := none) Fr_207 (fun _ h => h) (fun _ h => h) (Or.inl rfl))) (by decide) (by decide) (by decide) (by decide) (by decide) (by decide) (by decide) (by decide) tk1
      have tq_210 : rwG ws_205 h0 := ⟨_, b1, _, hk_1, rfl, tq_209⟩
      obtain ⟨k_211, fs9, hk_211⟩ := gC_of o_b1
      refine opn_X8 hG hk_211 (fun r0_211 n0_211 r1_211 n1_211 c2_211 r3_211 n3_211 c4_211 r5_211 n5_211 r6_211 n6_211 r7_211 n7_211 r8_211 n8_211 c9_211 c10_211 c11_211 v12_211 v13_211 v14_211 hf9 a_r0_211 f1_211 a_r1_211 f3_211 a_r3_211 f5_211 a_r5_211 f7_211 a_r6_211 f9_211 a_r7_211 f11_211 a_r8_211 f13_211 o_v12_211 o_v13_211 o_v14_211 f17_211 f18_211 f19_211 f20_211 f21_211 f22_211 f23_211 f24_211 f25_211 f26_211 f27_211 f28_211 f29_211 => ?_)
      subst hf9
      obtain ⟨k_212, f_212, hk_212⟩ := gI_of a_r0_211
      obtain ⟨k_213, f_213, hk_213⟩ := gJ_of a_r1_211
      obtain ⟨k_214, f_214, hk_214⟩ := gI_of a_r3_211
      have rv_215 := (rowC_at hD hk_211 rfl rfl rfl rfl rfl hk_212 hk_213 hk_214 tq_209).2
      replace rv_215 := hide rv_215
      refine lv_aload_n hx hb dX3_draw_18 rfl (lv_at hl 0 rfl) ?_
      have hFc := gfree hD hS hA
      refine W_led (fun hL0 => ?_)
      refine va_callv (va_runV (As := []) (rest := []) ⟨hx, hb, hml, hown, hts⟩ (m_X3_findBlocks l g H ws_205 h0 (c2_211) hG o_h0 (gN_of hD hk_1 (j := 0) rfl) (fun k9 k8 b9 fs gs e1 e2 e3 q0 e40 => by obtain rfl := gO_un hD hk_1 e1; cases e2; obtain rfl := gO_un hD hk_211 e3; cases e40; exact (by first | (have q_f19_211 := Hide.out f19_211; have q_f20_211 := Hide.out f20_211; have q_rv_215 := Hide.out rv_215; have g_c2_211 := i_rg c2_211; omega) | (have q_f19_211 := Hide.out f19_211; have q_f20_211 := Hide.out f20_211; have q_rv_215 := Hide.out rv_215; have q_f1_211 := Hide.out f1_211; have q_f17_211 := Hide.out f17_211; have q_f18_211 := Hide.out f18_211; have g_c2_211 := i_rg c2_211; omega) | (have q_f19_211 := Hide.out f19_211; have q_f20_211 := Hide.out f20_211; have q_rv_215 := Hide.out rv_215; have q_f1_211 := Hide.out f1_211; have q_f17_211 := Hide.out f17_211; have q_f18_211 := Hide.out f18_211; have q_f3_211 := Hide.out f3_211; have g_c2_211 := i_rg c2_211; omega))) (fun k9 k8 b9 fs gs e1 e2 e3 q0 e40 => by obtain rfl := gO_un hD hk_1 e1; cases e2; obtain rfl := gO_un hD hk_211 e3; cases e40; exact (by first | (have q_f19_211 := Hide.out f19_211; have q_f20_211 := Hide.out f20_211; have q_rv_215 := Hide.out rv_215; have g_c2_211 := i_rg c2_211; omega) | (have q_f19_211 := Hide.out f19_211; have q_f20_211 := Hide.out f20_211; have q_rv_215 := Hide.out rv_215; have q_f1_211 := Hide.out f1_211; have q_f17_211 := Hide.out f17_211; have q_f18_211 := Hide.out f18_211; have g_c2_211 := i_rg c2_211; omega) | (have q_f19_211 := Hide.out f19_211; have q_f20_211 := Hide.out f20_211; have q_rv_215 := Hide.out rv_215; have q_f1_211 := Hide.out f1_211; have q_f17_211 := Hide.out f17_211; have q_f18_211 := Hide.out f18_211; have q_f3_211 := Hide.out f3_211; have g_c2_211 := i_rg c2_211; omega)))) (cwV 0 hts (gd_V kw_875 kw_889 kw_890 kw_401 kw_888) rfl rfl rfl (by decide +kernel) ⟨Nat.le_of_ble_eq_true rfl, Nat.le_of_ble_eq_true rfl⟩) ⟨gblindH, va_recv hK hP (ci := 3) (q0 := k_1) rfl hk_1, fun U hU hW9 => gmkH hU hW9 hP hK hD hex hE hS hFc⟩ rfl rfl hl.1 rfl (lv_room (Nat.le_of_ble_eq_true rfl)) dX3_draw_19 ⟨(show 0 + (PC ws_205 + (0)) ≤ PC ws + (0) from (by have e0 : (0 : Int32).toInt = 0 := (by decide); omega)), (show 0 + (PS ws_205 + (0)) ≤ PS ws + (0) from (by have e0 : (0 : Int32).toInt = 0 := (by decide); omega))⟩) hS (fun q _ h => hFc q h) hFc (fun  ws_216 t9 H1 locs ht9 hvm9 hw9 hB9 hz9 hk9 hS => ?_)
      obtain ⟨E_217, Fr_218, hG, hP1, hD1, dc_219, ds_220, hLd, hdc_219, hds_220⟩ := hB9
      rw [ht9] at hLd
      refine W_tight (hL0.tr hLd).1 (hL0.tr hLd).2.1 ?_
      clear hL0 hLd
      have hP : va_P (gD g) cl0 ws_216 H1 := by rw [← ht9]; exact hP1
      have hD : va_D A ws_216 := hD1.weaken (fun _ _ _ h => hFc _ h)
      obtain ⟨hw9, xp_221, xp_222⟩ := hw9
      clear hP1 hD1 hz9 hk9 hvm9 ht9 hw9
      generalize H1 = H at hP hS ⊢
      have aa_223 := a_r2_1
      have aa_224 := a_r3_1
      have aa_225 := a_r4_1
      have aa_226 := a_r5_1
      have aa_227 := a_r6_1
      have aa_228 := a_r7_1
      have aa_229 := a_r8_1
      have aa_230 := a_r9_1
      have aa_231 := a_r11_1
      have aa_232 := a_r12_1
      have aa_233 := a_r13_1
      have aa_234 := a_r14_1
      have aa_235 := a_r15_1
      have aa_236 := a_r0_211
      have aa_237 := a_r1_211
      have aa_238 := a_r3_211
      have aa_239 := a_r5_211
      have aa_240 := a_r6_211
      have aa_241 := a_r7_211
      have aa_242 := a_r8_211
      have o_h0 := E_217.1 _ _ o_h0
      have o_b1 := E_217.1 _ _ o_b1
      obtain ⟨fs9, hk_243, hq_243⟩ := ((gF.a (F' := [(3, 1), (3, 2), (3, 3)]) Fr_218 (fun _ h => h))) _ _ _ hk_1
      refine opn_X3 hG hk_243 (fun v0_243 c1_243 r2_243 n2_243 r3_243 n3_243 r4_243 n4_243 r5_243 n5_243 r6_243 n6_243 r7_243 n7_243 r8_243 n8_243 r9_243 n9_243 c10_243 r11_243 n11_243 r12_243 n12_243 r13_243 n13_243 r14_243 n14_243 r15_243 n15_243 hf9 o_v0_243 a_r2_243 f2_243 a_r3_243 f4_243 a_r4_243 f6_243 a_r5_243 f8_243 a_r6_243 f10_243 a_r7_243 f12_243 a_r8_243 f14_243 a_r9_243 f16_243 a_r11_243 f18_243 a_r12_243 f20_243 a_r13_243 f22_243 a_r14_243 f24_243 a_r15_243 f26_243 f27_243 f28_243 f29_243 f30_243 f31_243 f32_243 f33_243 f34_243 f35_243 f36_243 f37_243 f38_243 f39_243 f40_243 => ?_)
      subst hf9
      have hn9 := fe_qr (hq_243 0 (by decide))
      subst hn9
      have o_b1 := o_v0_243 _ rfl
      obtain rfl := fe_r (hq_243 5 (by decide))
      have hn9 := gI_n hD ((E_217).1 _ _ aa_226) a_r5_243
      subst hn9
      have a_r5_1 := a_r5_243
      obtain rfl := fe_r (hq_243 8 (by decide))
      have hn9 := gI_n hD ((E_217).1 _ _ aa_229) a_r8_243
      subst hn9
      have a_r8_1 := a_r8_243
      obtain rfl := fe_r (hq_243 9 (by decide))
      have hn9 := gI_n hD ((E_217).1 _ _ aa_230) a_r9_243
      subst hn9
      have a_r9_1 := a_r9_243
      obtain rfl := fe_i (hq_243 10 (by decide))
      obtain ⟨fs9, hk_244, hq_244⟩ := ((gF.a (F' := [(3, 1), (3, 2), (3, 3)]) Fr_218 (fun _ h => h))) _ _ _ hk_211
      refine opn_X8 hG hk_244 (fun r0_244 n0_244 r1_244 n1_244 c2_244 r3_244 n3_244 c4_244 r5_244 n5_244 r6_244 n6_244 r7_244 n7_244 r8_244 n8_244 c9_244 c10_244 c11_244 v12_244 v13_244 v14_244 hf9 a_r0_244 f1_244 a_r1_244 f3_244 a_r3_244 f5_244 a_r5_244 f7_244 a_r6_244 f9_244 a_r7_244 f11_244 a_r8_244 f13_244 o_v12_244 o_v13_244 o_v14_244 f17_244 f18_244 f19_244 f20_244 f21_244 f22_244 f23_244 f24_244 f25_244 f26_244 f27_244 f28_244 f29_244 => ?_)
      subst hf9
      obtain rfl := fe_i (hq_244 2 (by decide))
      obtain ⟨k_245, f_245, hk_245⟩ := gI_of a_r3_243
      have aq_246 := B3_n (aC_at hD hk_243 rfl rfl hk_245 xp_221)
      replace aq_246 := hide aq_246
      obtain ⟨k_247, f_247, hk_247⟩ := gI_of a_r2_243
      have aq_248 := S2_n (aC_at hD hk_243 rfl rfl hk_247 xp_222)
      replace aq_248 := hide aq_248
      refine lv_aload_n hx hb dX3_draw_22 rfl (lv_at hl 0 rfl) ?_
      have hFc := gfree hD hS hA
      refine W_led (fun hL0 => ?_)
      refine va_callv (va_runV (As := []) (rest := []) ⟨hx, hb, hml, hown, hts⟩ (m_X3_makeRoom l g H ws_216 h0 hG o_h0 (gP_of hD hk_243 (fun q90 e90 => by cases e90; exact (by first | (have q_aq_246 := Hide.out aq_246; have q_aq_248 := Hide.out aq_248; have g_c1_243 := i_rg c1_243; have g_c2_211 := i_rg c2_211; omega) | (have q_aq_246 := Hide.out aq_246; have q_aq_248 := Hide.out aq_248; have q_f19_211 := Hide.out f19_211; have q_f20_211 := Hide.out f20_211; have q_rv_215 := Hide.out rv_215; have q_f20_244 := Hide.out f20_244; have g_c1_243 := i_rg c1_243; have g_c2_211 := i_rg c2_211; omega) | (have q_aq_246 := Hide.out aq_246; have q_aq_248 := Hide.out aq_248; have q_f19_211 := Hide.out f19_211; have q_f20_211 := Hide.out f20_211; have q_rv_215 := Hide.out rv_215; have q_f20_244 := Hide.out f20_244; have q_f1_211 := Hide.out f1_211; have q_f17_211 := Hide.out f17_211; have q_f18_211 := Hide.out f18_211; have q_f1_244 := Hide.out f1_244; have q_f17_244 := Hide.out f17_244; have q_f18_244 := Hide.out f18_244; have g_c1_243 := i_rg c1_243; have g_c2_211 := i_rg c2_211; omega) | (have q_aq_246 := Hide.out aq_246; have q_aq_248 := Hide.out aq_248; have q_f19_211 := Hide.out f19_211; have q_f20_211 := Hide.out f20_211; have q_rv_215 := Hide.out rv_215; have q_f20_244 := Hide.out f20_244; have q_f1_211 := Hide.out f1_211; have q_f17_211 := Hide.out f17_211; have q_f18_211 := Hide.out f18_211; have q_f1_244 := Hide.out f1_244; have q_f17_244 := Hide.out f17_244; have q_f18_244 := Hide.out f18_244; have q_f3_211 := Hide.out f3_211; have q_f3_244 := Hide.out f3_244; have g_c1_243 := i_rg c1_243; have g_c2_211 := i_rg c2_211; omega))))) (cwV 0 hts (gd_V kw_876 kw_936 kw_937 kw_401 kw_935) rfl rfl rfl (by decide +kernel) ⟨Nat.le_of_ble_eq_true rfl, Nat.le_of_ble_eq_true rfl⟩) ⟨gblindH, va_recv hK hP (ci := 3) (q0 := k_1) rfl hk_243, fun U hU hW9 => gmkH hU hW9 hP hK hD hex hE hS hFc⟩ rfl rfl hl.1 rfl (lv_room (Nat.le_of_ble_eq_true rfl)) dX3_draw_23 ⟨(show 0 + dc_219 + (PC ws_216 + (0)) ≤ PC ws + (0) from (by have e0 : (0 : Int32).toInt = 0 := (by decide); omega)), (show 0 + ds_220 + (PS ws_216 + (0)) ≤ PS ws + (0) from (by have e0 : (0 : Int32).toInt = 0 := (by decide); omega))⟩) hS (fun q _ h => hFc q h) hFc (fun  ws_249 t9 H1 locs ht9 hvm9 hw9 hB9 hz9 hk9 hS => ?_)
      obtain ⟨E_250, Fr_251, hG, hP1, hD1, dc_252, ds_253, hLd, hdc_252, hds_253⟩ := hB9
      rw [ht9] at hLd
      refine W_tight (hL0.tr hLd).1 (hL0.tr hLd).2.1 ?_
      clear hL0 hLd
      have hP : va_P (gD g) cl0 ws_249 H1 := by rw [← ht9]; exact hP1
      have hD : va_D A ws_249 := hD1.weaken (fun _ _ _ h => hFc _ h)
      obtain ⟨kf_254, kf_255, kf_256⟩ := id hw9
      clear hP1 hD1 hz9 hk9 hvm9 ht9 hw9
      generalize H1 = H at hP hS ⊢
      have aa_257 := a_r2_243
      have aa_258 := a_r3_243
      have aa_259 := a_r4_243
      have aa_260 := a_r5_1
      have aa_261 := a_r6_243
      have aa_262 := a_r7_243
      have aa_263 := a_r8_1
      have aa_264 := a_r9_1
      have aa_265 := a_r11_243
      have aa_266 := a_r12_243
      have aa_267 := a_r13_243
      have aa_268 := a_r14_243
      have aa_269 := a_r15_243
      have aa_270 := a_r0_244
      have aa_271 := a_r1_244
      have aa_272 := a_r3_244
      have aa_273 := a_r5_244
      have aa_274 := a_r6_244
      have aa_275 := a_r7_244
      have aa_276 := a_r8_244
      have o_h0 := E_250.1 _ _ o_h0
      have o_b1 := E_250.1 _ _ o_b1
      obtain ⟨fs9, hk_277, hq_277⟩ := ((gF.a (F' := [(3, 4), (3, 6), (3, 8), (3, 9), (3, 10), (3, 11), (3, 12), (3, 13), (3, 14), (3, 15)]) Fr_251 (fun _ h => h))) _ _ _ hk_243
      refine opn_X3 hG hk_277 (fun v0_277 c1_277 r2_277 n2_277 r3_277 n3_277 r4_277 n4_277 r5_277 n5_277 r6_277 n6_277 r7_277 n7_277 r8_277 n8_277 r9_277 n9_277 c10_277 r11_277 n11_277 r12_277 n12_277 r13_277 n13_277 r14_277 n14_277 r15_277 n15_277 hf9 o_v0_277 a_r2_277 f2_277 a_r3_277 f4_277 a_r4_277 f6_277 a_r5_277 f8_277 a_r6_277 f10_277 a_r7_277 f12_277 a_r8_277 f14_277 a_r9_277 f16_277 a_r11_277 f18_277 a_r12_277 f20_277 a_r13_277 f22_277 a_r14_277 f24_277 a_r15_277 f26_277 f27_277 f28_277 f29_277 f30_277 f31_277 f32_277 f33_277 f34_277 f35_277 f36_277 f37_277 f38_277 f39_277 f40_277 => ?_)
      subst hf9
      have hn9 := fe_qr (hq_277 0 (by decide))
      subst hn9
      have o_b1 := o_v0_277 _ rfl
      obtain rfl := fe_i (hq_277 1 (by decide))
      obtain rfl := fe_r (hq_277 2 (by decide))
      have hn9 := gI_n hD ((E_250).1 _ _ aa_257) a_r2_277
      subst hn9
      have a_r2_243 := a_r2_277
      obtain rfl := fe_r (hq_277 3 (by decide))
      have hn9 := gI_n hD ((E_250).1 _ _ aa_258) a_r3_277
      subst hn9
      have a_r3_243 := a_r3_277
      obtain rfl := fe_r (hq_277 5 (by decide))
      have hn9 := gI_n hD ((E_250).1 _ _ aa_260) a_r5_277
      subst hn9
      have a_r5_1 := a_r5_277
      have kq_278 := kf_254 _ _ _ hk_277 _ rfl _ _ rfl a_r8_277
      replace kq_278 := hide kq_278
      have kq_279 := kf_255 _ _ _ hk_277 _ rfl _ rfl
      replace kq_279 := hide kq_279
      have kq_280 := kf_256 _ _ _ hk_277 _ rfl _ rfl _ _ rfl a_r9_277
      replace kq_280 := hide kq_280
      refine lv_aload_n hx hb dX3_draw_26 rfl (lv_at hl 0 rfl) ?_
      obtain ⟨fs9, hk_281, hq_281⟩ := ((gF.a (F' := [(3, 4), (3, 6), (3, 8), (3, 9), (3, 10), (3, 11), (3, 12), (3, 13), (3, 14), (3, 15)]) Fr_251 (fun _ h => h))) _ _ _ hk_244
      refine opn_X8 hG hk_281 (fun r0_281 n0_281 r1_281 n1_281 c2_281 r3_281 n3_281 c4_281 r5_281 n5_281 r6_281 n6_281 r7_281 n7_281 r8_281 n8_281 c9_281 c10_281 c11_281 v12_281 v13_281 v14_281 hf9 a_r0_281 f1_281 a_r1_281 f3_281 a_r3_281 f5_281 a_r5_281 f7_281 a_r6_281 f9_281 a_r7_281 f11_281 a_r8_281 f13_281 o_v12_281 o_v13_281 o_v14_281 f17_281 f18_281 f19_281 f20_281 f21_281 f22_281 f23_281 f24_281 f25_281 f26_281 f27_281 f28_281 f29_281 => ?_)
      subst hf9
      obtain rfl := fe_i (hq_281 2 (by decide))
      have tq_282 : rwG ws_249 h0 := rwG_mo ((gF.tr (gF.mo (F' := [(3, 1), (3, 2), (3, 3), (3, 4), (3, 6), (3, 8), (3, 9), (3, 10), (3, 11), (3, 12), (3, 13), (3, 14), (3, 15)]) (C' := [(3, 2), (3, 3)]) (S' := none) Fr_218 (by decide) (fun _ h => h) (Or.inr rfl)) (gF.mo (F' := [(3, 1), (3, 2), (3, 3), (3, 4), (3, 6), (3, 8), (3, 9), (3, 10), (3, 11), (3, 12), (3, 13), (3, 14), (3, 15)]) (C' := [(3, 2), (3, 3)]) (S' := none) Fr_251 (by decide) (fun _ h => absurd h List.not_mem_nil) (Or.inr rfl)))) (by decide) (by decide) (by decide) (by decide) (by decide) (by decide) (by decide) (by decide) (by decide) tq_210
      have tq_283 : aC3 ws_249 h0 (B3 c2_211.toInt) := aC3_mo (Fr_251) (by decide) (by decide) (by decide) xp_221
      have tq_284 : aC2 ws_249 h0 (S2 c2_211.toInt) := aC2_mo (Fr_251) (by decide) (by decide) (by decide) xp_222
      have hFc := gfree hD hS hA
      refine W_led (fun hL0 => ?_)
      refine va_callv (va_runV (As := []) (rest := []) ⟨hx, hb, hml, hown, hts⟩ (m_X3_findEdges l g H ws_249 h0 (c2_211) hG o_h0 (gN_of hD hk_277 (j := 0) rfl) (gP_of hD hk_277 (fun q90 e90 p91 q91 e91 g91 => by cases e90; cases e91; have z91 := gI_n hD a_r8_277 g91; subst z91; exact (by first | (have q_aq_246 := Hide.out aq_246; have q_aq_248 := Hide.out aq_248; have q_f37_277 := Hide.out f37_277; have q_kq_278 := Hide.out kq_278; have q_kq_279 := Hide.out kq_279; have q_kq_280 := Hide.out kq_280; have g_c10_277 := i_rg c10_277; have g_c1_243 := i_rg c1_243; have g_c2_211 := i_rg c2_211; omega) | (have q_aq_246 := Hide.out aq_246; have q_aq_248 := Hide.out aq_248; have q_f37_277 := Hide.out f37_277; have q_kq_278 := Hide.out kq_278; have q_kq_279 := Hide.out kq_279; have q_kq_280 := Hide.out kq_280; have q_f19_211 := Hide.out f19_211; have q_f20_211 := Hide.out f20_211; have q_rv_215 := Hide.out rv_215; have q_f20_244 := Hide.out f20_244; have q_f40_277 := Hide.out f40_277; have q_f20_281 := Hide.out f20_281; have g_c10_277 := i_rg c10_277; have g_c1_243 := i_rg c1_243; have g_c2_211 := i_rg c2_211; omega) | (have q_aq_246 := Hide.out aq_246; have q_aq_248 := Hide.out aq_248; have q_f37_277 := Hide.out f37_277; have q_kq_278 := Hide.out kq_278; have q_kq_279 := Hide.out kq_279; have q_kq_280 := Hide.out kq_280; have q_f19_211 := Hide.out f19_211; have q_f20_211 := Hide.out f20_211; have q_rv_215 := Hide.out rv_215; have q_f20_244 := Hide.out f20_244; have q_f40_277 := Hide.out f40_277; have q_f20_281 := Hide.out f20_281; have q_f1_211 := Hide.out f1_211; have q_f17_211 := Hide.out f17_211; have q_f18_211 := Hide.out f18_211; have q_f1_244 := Hide.out f1_244; have q_f17_244 := Hide.out f17_244; have q_f18_244 := Hide.out f18_244; have q_f1_281 := Hide.out f1_281; have q_f17_281 := Hide.out f17_281; have q_f18_281 := Hide.out f18_281; have g_c10_277 := i_rg c10_277; have g_c1_243 := i_rg c1_243; have g_c2_211 := i_rg c2_211; omega) | (have q_aq_246 := Hide.out aq_246; have q_aq_248 := Hide.out aq_248; have q_f37_277 := Hide.out f37_277; have q_kq_278 := Hide.out kq_278; have q_kq_279 := Hide.out kq_279; have q_kq_280 := Hide.out kq_280; have q_f19_211 := Hide.out f19_211; have q_f20_211 := Hide.out f20_211; have q_rv_215 := Hide.out rv_215; have q_f20_244 := Hide.out f20_244; have q_f40_277 := Hide.out f40_277; have q_f20_281 := Hide.out f20_281; have q_f1_211 := Hide.out f1_211; have q_f17_211 := Hide.out f17_211; have q_f18_211 := Hide.out f18_211; have q_f1_244 := Hide.out f1_244; have q_f17_244 := Hide.out f17_244; have q_f18_244 := Hide.out f18_244; have q_f1_281 := Hide.out f1_281; have q_f17_281 := Hide.out f17_281; have q_f18_281 := Hide.out f18_281; have q_f3_211 := Hide.out f3_211; have q_f3_244 := Hide.out f3_244; have q_f3_281 := Hide.out f3_281; have g_c10_277 := i_rg c10_277; have g_c1_243 := i_rg c1_243; have g_c2_211 := i_rg c2_211; omega)))) (gP_of hD hk_277 (fun p90 q90 e90 g90 => by cases e90; have z90 := gI_n hD a_r5_1 g90; subst z90; exact (by first | (have q_f35_1 := Hide.out f35_1; have q_f39_1 := Hide.out f39_1; have q_gn_5 := Hide.out gn_5; have g_c1_1 := i_rg c1_1; omega) | (have q_f35_1 := Hide.out f35_1; have q_f39_1 := Hide.out f39_1; have q_gn_5 := Hide.out gn_5; have q_f37_1 := Hide.out f37_1; have g_c1_1 := i_rg c1_1; omega)))) (fun k9 k8 b9 fs gs e1 e2 e3 q0 e40 => by obtain rfl := gO_un hD hk_277 e1; cases e2; obtain rfl := gO_un hD hk_281 e3; cases e40; exact (by first | (have q_f19_211 := Hide.out f19_211; have q_f20_211 := Hide.out f20_211; have q_rv_215 := Hide.out rv_215; have q_f20_244 := Hide.out f20_244; have q_aq_246 := Hide.out aq_246; have q_aq_248 := Hide.out aq_248; have q_f20_281 := Hide.out f20_281; have g_c1_243 := i_rg c1_243; have g_c2_211 := i_rg c2_211; omega) | (have q_f19_211 := Hide.out f19_211; have q_f20_211 := Hide.out f20_211; have q_rv_215 := Hide.out rv_215; have q_f20_244 := Hide.out f20_244; have q_aq_246 := Hide.out aq_246; have q_aq_248 := Hide.out aq_248; have q_f20_281 := Hide.out f20_281; have q_f1_211 := Hide.out f1_211; have q_f17_211 := Hide.out f17_211; have q_f18_211 := Hide.out f18_211; have q_f1_244 := Hide.out f1_244; have q_f17_244 := Hide.out f17_244; have q_f18_244 := Hide.out f18_244; have q_kq_278 := Hide.out kq_278; have q_kq_279 := Hide.out kq_279; have q_kq_280 := Hide.out kq_280; have q_f1_281 := Hide.out f1_281; have q_f17_281 := Hide.out f17_281; have q_f18_281 := Hide.out f18_281; have g_c10_277 := i_rg c10_277; have g_c1_243 := i_rg c1_243; have g_c2_211 := i_rg c2_211; omega) | (have q_f19_211 := Hide.out f19_211; have q_f20_211 := Hide.out f20_211; have q_rv_215 := Hide.out rv_215; have q_f20_244 := Hide.out f20_244; have q_aq_246 := Hide.out aq_246; have q_aq_248 := Hide.out aq_248; have q_f20_281 := Hide.out f20_281; have q_f1_211 := Hide.out f1_211; have q_f17_211 := Hide.out f17_211; have q_f18_211 := Hide.out f18_211; have q_f1_244 := Hide.out f1_244; have q_f17_244 := Hide.out f17_244; have q_f18_244 := Hide.out f18_244; have q_kq_278 := Hide.out kq_278; have q_kq_279 := Hide.out kq_279; have q_kq_280 := Hide.out kq_280; have q_f1_281 := Hide.out f1_281; have q_f17_281 := Hide.out f17_281; have q_f18_281 := Hide.out f18_281; have q_f3_211 := Hide.out f3_211; have q_f3_244 := Hide.out f3_244; have q_f37_277 := Hide.out f37_277; have q_f40_277 := Hide.out f40_277; have q_f3_281 := Hide.out f3_281; have g_c10_277 := i_rg c10_277; have g_c1_243 := i_rg c1_243; have g_c2_211 := i_rg c2_211; omega))) tq_282 tq_283 tq_284) (cwV 0 hts (gd_V kw_877 kw_910 kw_911 kw_401 kw_909) rfl rfl rfl (by decide +kernel) ⟨Nat.le_of_ble_eq_true rfl, Nat.le_of_ble_eq_true rfl⟩) ⟨gblindH, va_recv hK hP (ci := 3) (q0 := k_1) rfl hk_277, fun U hU hW9 => gmkH hU hW9 hP hK hD hex hE hS hFc⟩ rfl rfl hl.1 rfl (lv_room (Nat.le_of_ble_eq_true rfl)) dX3_draw_27 ⟨(show 0 + dc_219 + dc_252 + (PC ws_249 + (0)) ≤ PC ws + (0) from (by have e0 : (0 : Int32).toInt = 0 := (by decide); omega)), (show 0 + ds_220 + ds_253 + (PS ws_249 + (0)) ≤ PS ws + (0) from (by have e0 : (0 : Int32).toInt = 0 := (by decide); omega))⟩) hS (fun q _ h => hFc q h) hFc (fun  ws_285 t9 H1 locs ht9 hvm9 hw9 hB9 hz9 hk9 hS => ?_)
      obtain ⟨E_286, Fr_287, hG, hP1, hD1, dc_288, ds_289, hLd, hdc_288, hds_289⟩ := hB9
      rw [ht9] at hLd
      refine W_tight (hL0.tr hLd).1 (hL0.tr hLd).2.1 ?_
      clear hL0 hLd
      have hP : va_P (gD g) cl0 ws_285 H1 := by rw [← ht9]; exact hP1
      have hD : va_D A ws_285 := hD1.weaken (fun _ _ _ h => hFc _ h)
      obtain ⟨hw9, xp_290⟩ := hw9
      clear hP1 hD1 hz9 hk9 hvm9 ht9 hw9
      generalize H1 = H at hP hS ⊢
      have aa_291 := a_r2_243
      have aa_292 := a_r3_243
      have aa_293 := a_r4_277
      have aa_294 := a_r5_1
      have aa_295 := a_r6_277
      have aa_296 := a_r7_277
      have aa_297 := a_r8_277
      have aa_298 := a_r9_277
      have aa_299 := a_r11_277
      have aa_300 := a_r12_277
      have aa_301 := a_r13_277
      have aa_302 := a_r14_277
      have aa_303 := a_r15_277
      have aa_304 := a_r0_281
      have aa_305 := a_r1_281
      have aa_306 := a_r3_281
      have aa_307 := a_r5_281
      have aa_308 := a_r6_281
      have aa_309 := a_r7_281
      have aa_310 := a_r8_281
      have o_h0 := E_286.1 _ _ o_h0
      have o_b1 := E_286.1 _ _ o_b1
      refine lv_aload_n hx hb dX3_draw_30 rfl (lv_at hl 0 rfl) ?_
      obtain ⟨fs9, hk_311, hq_311⟩ := ((gF.a (F' := [(3, 5)]) Fr_287 (fun _ h => h))) _ _ _ hk_277
      refine opn_X3 hG hk_311 (fun v0_311 c1_311 r2_311 n2_311 r3_311 n3_311 r4_311 n4_311 r5_311 n5_311 r6_311 n6_311 r7_311 n7_311 r8_311 n8_311 r9_311 n9_311 c10_311 r11_311 n11_311 r12_311 n12_311 r13_311 n13_311 r14_311 n14_311 r15_311 n15_311 hf9 o_v0_311 a_r2_311 f2_311 a_r3_311 f4_311 a_r4_311 f6_311 a_r5_311 f8_311 a_r6_311 f10_311 a_r7_311 f12_311 a_r8_311 f14_311 a_r9_311 f16_311 a_r11_311 f18_311 a_r12_311 f20_311 a_r13_311 f22_311 a_r14_311 f24_311 a_r15_311 f26_311 f27_311 f28_311 f29_311 f30_311 f31_311 f32_311 f33_311 f34_311 f35_311 f36_311 f37_311 f38_311 f39_311 f40_311 => ?_)
      subst hf9
      have hn9 := fe_qr (hq_311 0 (by decide))
      subst hn9
      have o_b1 := o_v0_311 _ rfl
      obtain rfl := fe_i (hq_311 1 (by decide))
      obtain rfl := fe_r (hq_311 2 (by decide))
      have hn9 := gI_n hD ((E_286).1 _ _ aa_291) a_r2_311
      subst hn9
      have a_r2_243 := a_r2_311
      obtain rfl := fe_r (hq_311 3 (by decide))
      have hn9 := gI_n hD ((E_286).1 _ _ aa_292) a_r3_311
      subst hn9
      have a_r3_243 := a_r3_311
      obtain rfl := fe_r (hq_311 8 (by decide))
      have hn9 := gI_n hD ((E_286).1 _ _ aa_297) a_r8_311
      subst hn9
      have a_r8_277 := a_r8_311
      obtain rfl := fe_r (hq_311 9 (by decide))
      have hn9 := gI_n hD ((E_286).1 _ _ aa_298) a_r9_311
      subst hn9
      have a_r9_277 := a_r9_311
      obtain rfl := fe_i (hq_311 10 (by decide))
      have hFc := gfree hD hS hA
      refine W_led (fun hL0 => ?_)
      refine va_callv (va_runV (As := []) (rest := []) ⟨hx, hb, hml, hown, hts⟩ (m_X3_findBacks l g H ws_285 h0 hG o_h0 (gP_of hD hk_311 (fun q90 e90 => by cases e90; exact (by first | (have q_aq_246 := Hide.out aq_246; have q_aq_248 := Hide.out aq_248; have q_kq_278 := Hide.out kq_278; have q_kq_279 := Hide.out kq_279; have q_kq_280 := Hide.out kq_280; have g_c10_277 := i_rg c10_277; have g_c1_243 := i_rg c1_243; have g_c2_211 := i_rg c2_211; omega) | (have q_aq_246 := Hide.out aq_246; have q_aq_248 := Hide.out aq_248; have q_kq_278 := Hide.out kq_278; have q_kq_279 := Hide.out kq_279; have q_kq_280 := Hide.out kq_280; have q_f19_211 := Hide.out f19_211; have q_f20_211 := Hide.out f20_211; have q_rv_215 := Hide.out rv_215; have q_f20_244 := Hide.out f20_244; have q_f37_277 := Hide.out f37_277; have q_f40_277 := Hide.out f40_277; have q_f20_281 := Hide.out f20_281; have g_c10_277 := i_rg c10_277; have g_c1_243 := i_rg c1_243; have g_c2_211 := i_rg c2_211; omega) | (have q_aq_246 := Hide.out aq_246; have q_aq_248 := Hide.out aq_248; have q_kq_278 := Hide.out kq_278; have q_kq_279 := Hide.out kq_279; have q_kq_280 := Hide.out kq_280; have q_f19_211 := Hide.out f19_211; have q_f20_211 := Hide.out f20_211; have q_rv_215 := Hide.out rv_215; have q_f20_244 := Hide.out f20_244; have q_f37_277 := Hide.out f37_277; have q_f40_277 := Hide.out f40_277; have q_f20_281 := Hide.out f20_281; have q_f1_211 := Hide.out f1_211; have q_f17_211 := Hide.out f17_211; have q_f18_211 := Hide.out f18_211; have q_f1_244 := Hide.out f1_244; have q_f17_244 := Hide.out f17_244; have q_f18_244 := Hide.out f18_244; have q_f1_281 := Hide.out f1_281; have q_f17_281 := Hide.out f17_281; have q_f18_281 := Hide.out f18_281; have g_c10_277 := i_rg c10_277; have g_c1_243 := i_rg c1_243; have g_c2_211 := i_rg c2_211; omega) | (have q_aq_246 := Hide.out aq_246; have q_aq_248 := Hide.out aq_248; have q_kq_278 := Hide.out kq_278; have q_kq_279 := Hide.out kq_279; have q_kq_280 := Hide.out kq_280; have q_f19_211 := Hide.out f19_211; have q_f20_211 := Hide.out f20_211; have q_rv_215 := Hide.out rv_215; have q_f20_244 := Hide.out f20_244; have q_f37_277 := Hide.out f37_277; have q_f40_277 := Hide.out f40_277; have q_f20_281 := Hide.out f20_281; have q_f1_211 := Hide.out f1_211; have q_f17_211 := Hide.out f17_211; have q_f18_211 := Hide.out f18_211; have q_f1_244 := Hide.out f1_244; have q_f17_244 := Hide.out f17_244; have q_f18_244 := Hide.out f18_244; have q_f1_281 := Hide.out f1_281; have q_f17_281 := Hide.out f17_281; have q_f18_281 := Hide.out f18_281; have q_f3_211 := Hide.out f3_211; have q_f3_244 := Hide.out f3_244; have q_f3_281 := Hide.out f3_281; have g_c10_277 := i_rg c10_277; have g_c1_243 := i_rg c1_243; have g_c2_211 := i_rg c2_211; omega)))) (gP_of hD hk_311 (fun q90 e90 p91 q91 e91 g91 => by cases e90; cases e91; have z91 := gI_n hD a_r8_277 g91; subst z91; exact (by first | (have q_aq_246 := Hide.out aq_246; have q_aq_248 := Hide.out aq_248; have q_f37_277 := Hide.out f37_277; have q_kq_278 := Hide.out kq_278; have q_kq_279 := Hide.out kq_279; have q_kq_280 := Hide.out kq_280; have g_c10_277 := i_rg c10_277; have g_c1_243 := i_rg c1_243; have g_c2_211 := i_rg c2_211; omega) | (have q_aq_246 := Hide.out aq_246; have q_aq_248 := Hide.out aq_248; have q_f37_277 := Hide.out f37_277; have q_kq_278 := Hide.out kq_278; have q_kq_279 := Hide.out kq_279; have q_kq_280 := Hide.out kq_280; have q_f19_211 := Hide.out f19_211; have q_f20_211 := Hide.out f20_211; have q_rv_215 := Hide.out rv_215; have q_f20_244 := Hide.out f20_244; have q_f40_277 := Hide.out f40_277; have q_f20_281 := Hide.out f20_281; have g_c10_277 := i_rg c10_277; have g_c1_243 := i_rg c1_243; have g_c2_211 := i_rg c2_211; omega) | (have q_aq_246 := Hide.out aq_246; have q_aq_248 := Hide.out aq_248; have q_f37_277 := Hide.out f37_277; have q_kq_278 := Hide.out kq_278; have q_kq_279 := Hide.out kq_279; have q_kq_280 := Hide.out kq_280; have q_f19_211 := Hide.out f19_211; have q_f20_211 := Hide.out f20_211; have q_rv_215 := Hide.out rv_215; have q_f20_244 := Hide.out f20_244; have q_f40_277 := Hide.out f40_277; have q_f20_281 := Hide.out f20_281; have q_f1_211 := Hide.out f1_211; have q_f17_211 := Hide.out f17_211; have q_f18_211 := Hide.out f18_211; have q_f1_244 := Hide.out f1_244; have q_f17_244 := Hide.out f17_244; have q_f18_244 := Hide.out f18_244; have q_f1_281 := Hide.out f1_281; have q_f17_281 := Hide.out f17_281; have q_f18_281 := Hide.out f18_281; have g_c10_277 := i_rg c10_277; have g_c1_243 := i_rg c1_243; have g_c2_211 := i_rg c2_211; omega) | (have q_aq_246 := Hide.out aq_246; have q_aq_248 := Hide.out aq_248; have q_f37_277 := Hide.out f37_277; have q_kq_278 := Hide.out kq_278; have q_kq_279 := Hide.out kq_279; have q_kq_280 := Hide.out kq_280; have q_f19_211 := Hide.out f19_211; have q_f20_211 := Hide.out f20_211; have q_rv_215 := Hide.out rv_215; have q_f20_244 := Hide.out f20_244; have q_f40_277 := Hide.out f40_277; have q_f20_281 := Hide.out f20_281; have q_f1_211 := Hide.out f1_211; have q_f17_211 := Hide.out f17_211; have q_f18_211 := Hide.out f18_211; have q_f1_244 := Hide.out f1_244; have q_f17_244 := Hide.out f17_244; have q_f18_244 := Hide.out f18_244; have q_f1_281 := Hide.out f1_281; have q_f17_281 := Hide.out f17_281; have q_f18_281 := Hide.out f18_281; have q_f3_211 := Hide.out f3_211; have q_f3_244 := Hide.out f3_244; have q_f3_281 := Hide.out f3_281; have g_c10_277 := i_rg c10_277; have g_c1_243 := i_rg c1_243; have g_c2_211 := i_rg c2_211; omega)))) xp_290) (cwV 0 hts (gd_V kw_878 kw_883 kw_884 kw_401 kw_882) rfl rfl rfl (by decide +kernel) ⟨Nat.le_of_ble_eq_true rfl, Nat.le_of_ble_eq_true rfl⟩) ⟨gblindH, va_recv hK hP (ci := 3) (q0 := k_1) rfl hk_311, fun U hU hW9 => gmkH hU hW9 hP hK hD hex hE hS hFc⟩ rfl rfl hl.1 rfl (lv_room (Nat.le_of_ble_eq_true rfl)) dX3_draw_31 ⟨(show 0 + dc_219 + dc_252 + dc_288 + (PC ws_285 + (0)) ≤ PC ws + (0) from (by have e0 : (0 : Int32).toInt = 0 := (by decide); omega)), (show 0 + ds_220 + ds_253 + ds_289 + (PS ws_285 + (0)) ≤ PS ws + (0) from (by have e0 : (0 : Int32).toInt = 0 := (by decide); omega))⟩) hS (fun q _ h => hFc q h) hFc (fun  ws_312 t9 H1 locs ht9 hvm9 hw9 hB9 hz9 hk9 hS => ?_)
      obtain ⟨E_313, Fr_314, hG, hP1, hD1, dc_315, ds_316, hLd, hdc_315, hds_316⟩ := hB9
      rw [ht9] at hLd
      refine W_tight (hL0.tr hLd).1 (hL0.tr hLd).2.1 ?_
      clear hL0 hLd
      have hP : va_P (gD g) cl0 ws_312 H1 := by rw [← ht9]; exact hP1
      have hD : va_D A ws_312 := hD1.weaken (fun _ _ _ h => hFc _ h)
      obtain ⟨hw9, xp_317⟩ := hw9
      clear hP1 hD1 hz9 hk9 hvm9 ht9 hw9
      generalize H1 = H at hP hS ⊢
      have aa_318 := a_r2_243
      have aa_319 := a_r3_243
      have aa_320 := a_r4_311
      have aa_321 := a_r5_311
      have aa_322 := a_r6_311
      have aa_323 := a_r7_311
      have aa_324 := a_r8_277
      have aa_325 := a_r9_277
      have aa_326 := a_r11_311
      have aa_327 := a_r12_311
      have aa_328 := a_r13_311
      have aa_329 := a_r14_311
      have aa_330 := a_r15_311
      have o_h0 := E_313.1 _ _ o_h0
      have o_b1 := E_313.1 _ _ o_b1
      refine lv_aload_n hx hb dX3_draw_34 rfl (lv_at hl 0 rfl) ?_
      obtain ⟨fs9, hk_331, hq_331⟩ := ((gF.a (F' := [(3, 7)]) Fr_314 (fun _ h => h))) _ _ _ hk_311
      refine opn_X3 hG hk_331 (fun v0_331 c1_331 r2_331 n2_331 r3_331 n3_331 r4_331 n4_331 r5_331 n5_331 r6_331 n6_331 r7_331 n7_331 r8_331 n8_331 r9_331 n9_331 c10_331 r11_331 n11_331 r12_331 n12_331 r13_331 n13_331 r14_331 n14_331 r15_331 n15_331 hf9 o_v0_331 a_r2_331 f2_331 a_r3_331 f4_331 a_r4_331 f6_331 a_r5_331 f8_331 a_r6_331 f10_331 a_r7_331 f12_331 a_r8_331 f14_331 a_r9_331 f16_331 a_r11_331 f18_331 a_r12_331 f20_331 a_r13_331 f22_331 a_r14_331 f24_331 a_r15_331 f26_331 f27_331 f28_331 f29_331 f30_331 f31_331 f32_331 f33_331 f34_331 f35_331 f36_331 f37_331 f38_331 f39_331 f40_331 => ?_)
      subst hf9
      have hn9 := fe_qr (hq_331 0 (by decide))
      subst hn9
      have o_b1 := o_v0_331 _ rfl
      obtain rfl := fe_i (hq_331 1 (by decide))
      obtain rfl := fe_r (hq_331 2 (by decide))
      have hn9 := gI_n hD ((E_313).1 _ _ aa_318) a_r2_331
      subst hn9
      have a_r2_243 := a_r2_331
      obtain rfl := fe_r (hq_331 3 (by decide))
      have hn9 := gI_n hD ((E_313).1 _ _ aa_319) a_r3_331
      subst hn9
      have a_r3_243 := a_r3_331
      obtain rfl := fe_r (hq_331 5 (by decide))
      have hn9 := gI_n hD ((E_313).1 _ _ aa_321) a_r5_331
      subst hn9
      have a_r5_311 := a_r5_331
      obtain rfl := fe_r (hq_331 8 (by decide))
      have hn9 := gI_n hD ((E_313).1 _ _ aa_324) a_r8_331
      subst hn9
      have a_r8_277 := a_r8_331
      obtain rfl := fe_r (hq_331 9 (by decide))
      have hn9 := gI_n hD ((E_313).1 _ _ aa_325) a_r9_331
      subst hn9
      have a_r9_277 := a_r9_331
      obtain rfl := fe_i (hq_331 10 (by decide))
      have tq_332 : gE2 ws_312 h0 := gE2_mo (Fr_314) (by decide) (by decide) (by decide) (by decide) (by decide) xp_290
      have hFc := gfree hD hS hA
      refine va_callv (va_runV (As := []) (rest := []) ⟨hx, hb, hml, hown, hts⟩ (m_X3_findReached l g H.size ws_312 h0 hG o_h0 (gP_of hD hk_331 (fun q90 e90 => by cases e90; exact (by first | (have q_aq_246 := Hide.out aq_246; have q_aq_248 := Hide.out aq_248; have q_kq_278 := Hide.out kq_278; have q_kq_279 := Hide.out kq_279; have q_kq_280 := Hide.out kq_280; have g_c10_277 := i_rg c10_277; have g_c1_243 := i_rg c1_243; have g_c2_211 := i_rg c2_211; omega) | (have q_aq_246 := Hide.out aq_246; have q_aq_248 := Hide.out aq_248; have q_kq_278 := Hide.out kq_278; have q_kq_279 := Hide.out kq_279; have q_kq_280 := Hide.out kq_280; have q_f19_211 := Hide.out f19_211; have q_f20_211 := Hide.out f20_211; have q_rv_215 := Hide.out rv_215; have q_f20_244 := Hide.out f20_244; have q_f37_277 := Hide.out f37_277; have q_f40_277 := Hide.out f40_277; have q_f20_281 := Hide.out f20_281; have g_c10_277 := i_rg c10_277; have g_c1_243 := i_rg c1_243; have g_c2_211 := i_rg c2_211; omega) | (have q_aq_246 := Hide.out aq_246; have q_aq_248 := Hide.out aq_248; have q_kq_278 := Hide.out kq_278; have q_kq_279 := Hide.out kq_279; have q_kq_280 := Hide.out kq_280; have q_f19_211 := Hide.out f19_211; have q_f20_211 := Hide.out f20_211; have q_rv_215 := Hide.out rv_215; have q_f20_244 := Hide.out f20_244; have q_f37_277 := Hide.out f37_277; have q_f40_277 := Hide.out f40_277; have q_f20_281 := Hide.out f20_281; have q_f1_211 := Hide.out f1_211; have q_f17_211 := Hide.out f17_211; have q_f18_211 := Hide.out f18_211; have q_f1_244 := Hide.out f1_244; have q_f17_244 := Hide.out f17_244; have q_f18_244 := Hide.out f18_244; have q_f1_281 := Hide.out f1_281; have q_f17_281 := Hide.out f17_281; have q_f18_281 := Hide.out f18_281; have g_c10_277 := i_rg c10_277; have g_c1_243 := i_rg c1_243; have g_c2_211 := i_rg c2_211; omega) | (have q_aq_246 := Hide.out aq_246; have q_aq_248 := Hide.out aq_248; have q_kq_278 := Hide.out kq_278; have q_kq_279 := Hide.out kq_279; have q_kq_280 := Hide.out kq_280; have q_f19_211 := Hide.out f19_211; have q_f20_211 := Hide.out f20_211; have q_rv_215 := Hide.out rv_215; have q_f20_244 := Hide.out f20_244; have q_f37_277 := Hide.out f37_277; have q_f40_277 := Hide.out f40_277; have q_f20_281 := Hide.out f20_281; have q_f1_211 := Hide.out f1_211; have q_f17_211 := Hide.out f17_211; have q_f18_211 := Hide.out f18_211; have q_f1_244 := Hide.out f1_244; have q_f17_244 := Hide.out f17_244; have q_f18_244 := Hide.out f18_244; have q_f1_281 := Hide.out f1_281; have q_f17_281 := Hide.out f17_281; have q_f18_281 := Hide.out f18_281; have q_f3_211 := Hide.out f3_211; have q_f3_244 := Hide.out f3_244; have q_f3_281 := Hide.out f3_281; have g_c10_277 := i_rg c10_277; have g_c1_243 := i_rg c1_243; have g_c2_211 := i_rg c2_211; omega)))) (gP_of hD hk_331 (fun q90 e90 p91 q91 e91 g91 => by cases e90; cases e91; have z91 := gI_n hD a_r8_277 g91; subst z91; exact (by first | (have q_aq_246 := Hide.out aq_246; have q_aq_248 := Hide.out aq_248; have q_f37_277 := Hide.out f37_277; have q_kq_278 := Hide.out kq_278; have q_kq_279 := Hide.out kq_279; have q_kq_280 := Hide.out kq_280; have g_c10_277 := i_rg c10_277; have g_c1_243 := i_rg c1_243; have g_c2_211 := i_rg c2_211; omega) | (have q_aq_246 := Hide.out aq_246; have q_aq_248 := Hide.out aq_248; have q_f37_277 := Hide.out f37_277; have q_kq_278 := Hide.out kq_278; have q_kq_279 := Hide.out kq_279; have q_kq_280 := Hide.out kq_280; have q_f19_211 := Hide.out f19_211; have q_f20_211 := Hide.out f20_211; have q_rv_215 := Hide.out rv_215; have q_f20_244 := Hide.out f20_244; have q_f40_277 := Hide.out f40_277; have q_f20_281 := Hide.out f20_281; have g_c10_277 := i_rg c10_277; have g_c1_243 := i_rg c1_243; have g_c2_211 := i_rg c2_211; omega) | (have q_aq_246 := Hide.out aq_246; have q_aq_248 := Hide.out aq_248; have q_f37_277 := Hide.out f37_277; have q_kq_278 := Hide.out kq_278; have q_kq_279 := Hide.out kq_279; have q_kq_280 := Hide.out kq_280; have q_f19_211 := Hide.out f19_211; have q_f20_211 := Hide.out f20_211; have q_rv_215 := Hide.out rv_215; have q_f20_244 := Hide.out f20_244; have q_f40_277 := Hide.out f40_277; have q_f20_281 := Hide.out f20_281; have q_f1_211 := Hide.out f1_211; have q_f17_211 := Hide.out f17_211; have q_f18_211 := Hide.out f18_211; have q_f1_244 := Hide.out f1_244; have q_f17_244 := Hide.out f17_244; have q_f18_244 := Hide.out f18_244; have q_f1_281 := Hide.out f1_281; have q_f17_281 := Hide.out f17_281; have q_f18_281 := Hide.out f18_281; have g_c10_277 := i_rg c10_277; have g_c1_243 := i_rg c1_243; have g_c2_211 := i_rg c2_211; omega) | (have q_aq_246 := Hide.out aq_246; have q_aq_248 := Hide.out aq_248; have q_f37_277 := Hide.out f37_277; have q_kq_278 := Hide.out kq_278; have q_kq_279 := Hide.out kq_279; have q_kq_280 := Hide.out kq_280; have q_f19_211 := Hide.out f19_211; have q_f20_211 := Hide.out f20_211; have q_rv_215 := Hide.out rv_215; have q_f20_244 := Hide.out f20_244; have q_f40_277 := Hide.out f40_277; have q_f20_281 := Hide.out f20_281; have q_f1_211 := Hide.out f1_211; have q_f17_211 := Hide.out f17_211; have q_f18_211 := Hide.out f18_211; have q_f1_244 := Hide.out f1_244; have q_f17_244 := Hide.out f17_244; have q_f18_244 := Hide.out f18_244; have q_f1_281 := Hide.out f1_281; have q_f17_281 := Hide.out f17_281; have q_f18_281 := Hide.out f18_281; have q_f3_211 := Hide.out f3_211; have q_f3_244 := Hide.out f3_244; have q_f3_281 := Hide.out f3_281; have g_c10_277 := i_rg c10_277; have g_c1_243 := i_rg c1_243; have g_c2_211 := i_rg c2_211; omega)))) tq_332) (cwV 0 hts (gd_V kw_879 kw_921 kw_922 kw_401 kw_920) rfl rfl rfl (by decide +kernel) ⟨Nat.le_of_ble_eq_true rfl, Nat.le_of_ble_eq_true rfl⟩) ⟨gblind, va_recv hK hP (ci := 3) (q0 := k_1) rfl hk_331, fun U hU hW9 => gmk hU hW9 hP hK hD hex hE hS hFc⟩ rfl rfl hl.1 rfl (lv_room (Nat.le_of_ble_eq_true rfl)) dX3_draw_35 ⟨(show 0 + dc_219 + dc_252 + dc_288 + dc_315 + 0 ≤ PC ws + (0) from (by omega)), (show 0 + ds_220 + ds_253 + ds_289 + ds_316 + 0 ≤ PS ws + (0) from (by omega))⟩) hS (fun q _ h => hFc q h) hFc (fun  ws_333 t9 H1 locs ht9 hvm9 hw9 hB9 hz9 hk9 hS => ?_)
      obtain ⟨E_334, Fr_335, hG, hP1, hD1⟩ := hB9
      have hP : va_P (gD g) cl0 ws_333 H1 := by rw [← ht9]; exact hP1
      have hD : va_D A ws_333 := hD1.weaken (fun _ _ _ h => hFc _ h)
      clear hP1 hD1 hz9 hk9 hvm9 ht9 hw9
      generalize H1 = H at hP hS ⊢
      have aa_338 := a_r2_243
      have aa_339 := a_r3_243
      have aa_340 := a_r4_331
      have aa_341 := a_r5_311
      have aa_342 := a_r6_331
      have aa_343 := a_r7_331
      have aa_344 := a_r8_277
      have aa_345 := a_r9_277
      have aa_346 := a_r11_331
      have aa_347 := a_r12_331
      have aa_348 := a_r13_331
      have aa_349 := a_r14_331
      have aa_350 := a_r15_331
      have o_h0 := E_334.1 _ _ o_h0
      have o_b1 := E_334.1 _ _ o_b1
      have pp_351 := Fr_335.pp
      refine lv_aload_n hx hb dX3_draw_38 rfl (lv_at hl 0 rfl) ?_
      obtain ⟨fs9, hk_352, hq_352⟩ := ((gF.a (F' := []) Fr_335 (fun _ h => h))) _ _ _ hk_331
      refine opn_X3 hG hk_352 (fun v0_352 c1_352 r2_352 n2_352 r3_352 n3_352 r4_352 n4_352 r5_352 n5_352 r6_352 n6_352 r7_352 n7_352 r8_352 n8_352 r9_352 n9_352 c10_352 r11_352 n11_352 r12_352 n12_352 r13_352 n13_352 r14_352 n14_352 r15_352 n15_352 hf9 o_v0_352 a_r2_352 f2_352 a_r3_352 f4_352 a_r4_352 f6_352 a_r5_352 f8_352 a_r6_352 f10_352 a_r7_352 f12_352 a_r8_352 f14_352 a_r9_352 f16_352 a_r11_352 f18_352 a_r12_352 f20_352 a_r13_352 f22_352 a_r14_352 f24_352 a_r15_352 f26_352 f27_352 f28_352 f29_352 f30_352 f31_352 f32_352 f33_352 f34_352 f35_352 f36_352 f37_352 f38_352 f39_352 f40_352 => ?_)
      subst hf9
      have hn9 := fe_qr (hq_352 0 (by decide))
      subst hn9
      have o_b1 := o_v0_352 _ rfl
      obtain rfl := fe_i (hq_352 1 (by decide))
      obtain rfl := fe_r (hq_352 2 (by decide))
      have hn9 := gI_n hD ((E_334).1 _ _ aa_338) a_r2_352
      subst hn9
      have a_r2_243 := a_r2_352
      obtain rfl := fe_r (hq_352 3 (by decide))
      have hn9 := gI_n hD ((E_334).1 _ _ aa_339) a_r3_352
      subst hn9
      have a_r3_243 := a_r3_352
      obtain rfl := fe_r (hq_352 5 (by decide))
      have hn9 := gI_n hD ((E_334).1 _ _ aa_341) a_r5_352
      subst hn9
      have a_r5_311 := a_r5_352
      obtain rfl := fe_r (hq_352 8 (by decide))
      have hn9 := gI_n hD ((E_334).1 _ _ aa_344) a_r8_352
      subst hn9
      have a_r8_277 := a_r8_352
      obtain rfl := fe_r (hq_352 9 (by decide))
      have hn9 := gI_n hD ((E_334).1 _ _ aa_345) a_r9_352
      subst hn9
      have a_r9_277 := a_r9_352
      obtain rfl := fe_i (hq_352 10 (by decide))
      have tq_353 : gE2 ws_333 h0 := gE2_mo (Fr_335) (by decide) (by decide) (by decide) (by decide) (by decide) tq_332
      have hFc := gfree hD hS hA
      refine va_callv (va_runV (As := []) (rest := []) ⟨hx, hb, hml, hown, hts⟩ (m_X3_findDominators l g H.size ws_333 h0 hG o_h0 (gP_of hD hk_352 (fun q90 e90 => by cases e90; exact (by first | (have q_aq_246 := Hide.out aq_246; have q_aq_248 := Hide.out aq_248; have q_kq_278 := Hide.out kq_278; have q_kq_279 := Hide.out kq_279; have q_kq_280 := Hide.out kq_280; have g_c10_277 := i_rg c10_277; have g_c1_243 := i_rg c1_243; have g_c2_211 := i_rg c2_211; omega) | (have q_aq_246 := Hide.out aq_246; have q_aq_248 := Hide.out aq_248; have q_kq_278 := Hide.out kq_278; have q_kq_279 := Hide.out kq_279; have q_kq_280 := Hide.out kq_280; have q_f19_211 := Hide.out f19_211; have q_f20_211 := Hide.out f20_211; have q_rv_215 := Hide.out rv_215; have q_f20_244 := Hide.out f20_244; have q_f37_277 := Hide.out f37_277; have q_f40_277 := Hide.out f40_277; have q_f20_281 := Hide.out f20_281; have g_c10_277 := i_rg c10_277; have g_c1_243 := i_rg c1_243; have g_c2_211 := i_rg c2_211; omega) | (have q_aq_246 := Hide.out aq_246; have q_aq_248 := Hide.out aq_248; have q_kq_278 := Hide.out kq_278; have q_kq_279 := Hide.out kq_279; have q_kq_280 := Hide.out kq_280; have q_f19_211 := Hide.out f19_211; have q_f20_211 := Hide.out f20_211; have q_rv_215 := Hide.out rv_215; have q_f20_244 := Hide.out f20_244; have q_f37_277 := Hide.out f37_277; have q_f40_277 := Hide.out f40_277; have q_f20_281 := Hide.out f20_281; have q_f1_211 := Hide.out f1_211; have q_f17_211 := Hide.out f17_211; have q_f18_211 := Hide.out f18_211; have q_f1_244 := Hide.out f1_244; have q_f17_244 := Hide.out f17_244; have q_f18_244 := Hide.out f18_244; have q_f1_281 := Hide.out f1_281; have q_f17_281 := Hide.out f17_281; have q_f18_281 := Hide.out f18_281; have g_c10_277 := i_rg c10_277; have g_c1_243 := i_rg c1_243; have g_c2_211 := i_rg c2_211; omega) | (have q_aq_246 := Hide.out aq_246; have q_aq_248 := Hide.out aq_248; have q_kq_278 := Hide.out kq_278; have q_kq_279 := Hide.out kq_279; have q_kq_280 := Hide.out kq_280; have q_f19_211 := Hide.out f19_211; have q_f20_211 := Hide.out f20_211; have q_rv_215 := Hide.out rv_215; have q_f20_244 := Hide.out f20_244; have q_f37_277 := Hide.out f37_277; have q_f40_277 := Hide.out f40_277; have q_f20_281 := Hide.out f20_281; have q_f1_211 := Hide.out f1_211; have q_f17_211 := Hide.out f17_211; have q_f18_211 := Hide.out f18_211; have q_f1_244 := Hide.out f1_244; have q_f17_244 := Hide.out f17_244; have q_f18_244 := Hide.out f18_244; have q_f1_281 := Hide.out f1_281; have q_f17_281 := Hide.out f17_281; have q_f18_281 := Hide.out f18_281; have q_f3_211 := Hide.out f3_211; have q_f3_244 := Hide.out f3_244; have q_f3_281 := Hide.out f3_281; have g_c10_277 := i_rg c10_277; have g_c1_243 := i_rg c1_243; have g_c2_211 := i_rg c2_211; omega)))) (gP_of hD hk_352 (fun q90 e90 p91 q91 e91 g91 => by cases e90; cases e91; have z91 := gI_n hD a_r8_277 g91; subst z91; exact (by first | (have q_aq_246 := Hide.out aq_246; have q_aq_248 := Hide.out aq_248; have q_f37_277 := Hide.out f37_277; have q_kq_278 := Hide.out kq_278; have q_kq_279 := Hide.out kq_279; have q_kq_280 := Hide.out kq_280; have g_c10_277 := i_rg c10_277; have g_c1_243 := i_rg c1_243; have g_c2_211 := i_rg c2_211; omega) | (have q_aq_246 := Hide.out aq_246; have q_aq_248 := Hide.out aq_248; have q_f37_277 := Hide.out f37_277; have q_kq_278 := Hide.out kq_278; have q_kq_279 := Hide.out kq_279; have q_kq_280 := Hide.out kq_280; have q_f19_211 := Hide.out f19_211; have q_f20_211 := Hide.out f20_211; have q_rv_215 := Hide.out rv_215; have q_f20_244 := Hide.out f20_244; have q_f40_277 := Hide.out f40_277; have q_f20_281 := Hide.out f20_281; have g_c10_277 := i_rg c10_277; have g_c1_243 := i_rg c1_243; have g_c2_211 := i_rg c2_211; omega) | (have q_aq_246 := Hide.out aq_246; have q_aq_248 := Hide.out aq_248; have q_f37_277 := Hide.out f37_277; have q_kq_278 := Hide.out kq_278; have q_kq_279 := Hide.out kq_279; have q_kq_280 := Hide.out kq_280; have q_f19_211 := Hide.out f19_211; have q_f20_211 := Hide.out f20_211; have q_rv_215 := Hide.out rv_215; have q_f20_244 := Hide.out f20_244; have q_f40_277 := Hide.out f40_277; have q_f20_281 := Hide.out f20_281; have q_f1_211 := Hide.out f1_211; have q_f17_211 := Hide.out f17_211; have q_f18_211 := Hide.out f18_211; have q_f1_244 := Hide.out f1_244; have q_f17_244 := Hide.out f17_244; have q_f18_244 := Hide.out f18_244; have q_f1_281 := Hide.out f1_281; have q_f17_281 := Hide.out f17_281; have q_f18_281 := Hide.out f18_281; have g_c10_277 := i_rg c10_277; have g_c1_243 := i_rg c1_243; have g_c2_211 := i_rg c2_211; omega) | (have q_aq_246 := Hide.out aq_246; have q_aq_248 := Hide.out aq_248; have q_f37_277 := Hide.out f37_277; have q_kq_278 := Hide.out kq_278; have q_kq_279 := Hide.out kq_279; have q_kq_280 := Hide.out kq_280; have q_f19_211 := Hide.out f19_211; have q_f20_211 := Hide.out f20_211; have q_rv_215 := Hide.out rv_215; have q_f20_244 := Hide.out f20_244; have q_f40_277 := Hide.out f40_277; have q_f20_281 := Hide.out f20_281; have q_f1_211 := Hide.out f1_211; have q_f17_211 := Hide.out f17_211; have q_f18_211 := Hide.out f18_211; have q_f1_244 := Hide.out f1_244; have q_f17_244 := Hide.out f17_244; have q_f18_244 := Hide.out f18_244; have q_f1_281 := Hide.out f1_281; have q_f17_281 := Hide.out f17_281; have q_f18_281 := Hide.out f18_281; have q_f3_211 := Hide.out f3_211; have q_f3_244 := Hide.out f3_244; have q_f3_281 := Hide.out f3_281; have g_c10_277 := i_rg c10_277; have g_c1_243 := i_rg c1_243; have g_c2_211 := i_rg c2_211; omega)))) (gP_of hD hk_352 (fun q90 e90 q91 e91 => by cases e90; cases e91; exact (by first | (have q_aq_246 := Hide.out aq_246; have q_aq_248 := Hide.out aq_248; have q_kq_278 := Hide.out kq_278; have q_kq_279 := Hide.out kq_279; have q_kq_280 := Hide.out kq_280; have g_c10_277 := i_rg c10_277; have g_c1_243 := i_rg c1_243; have g_c2_211 := i_rg c2_211; omega) | (have q_aq_246 := Hide.out aq_246; have q_aq_248 := Hide.out aq_248; have q_kq_278 := Hide.out kq_278; have q_kq_279 := Hide.out kq_279; have q_kq_280 := Hide.out kq_280; have q_f19_211 := Hide.out f19_211; have q_f20_211 := Hide.out f20_211; have q_rv_215 := Hide.out rv_215; have q_f20_244 := Hide.out f20_244; have q_f37_277 := Hide.out f37_277; have q_f40_277 := Hide.out f40_277; have q_f20_281 := Hide.out f20_281; have g_c10_277 := i_rg c10_277; have g_c1_243 := i_rg c1_243; have g_c2_211 := i_rg c2_211; omega) | (have q_aq_246 := Hide.out aq_246; have q_aq_248 := Hide.out aq_248; have q_kq_278 := Hide.out kq_278; have q_kq_279 := Hide.out kq_279; have q_kq_280 := Hide.out kq_280; have q_f19_211 := Hide.out f19_211; have q_f20_211 := Hide.out f20_211; have q_rv_215 := Hide.out rv_215; have q_f20_244 := Hide.out f20_244; have q_f37_277 := Hide.out f37_277; have q_f40_277 := Hide.out f40_277; have q_f20_281 := Hide.out f20_281; have q_f1_211 := Hide.out f1_211; have q_f17_211 := Hide.out f17_211; have q_f18_211 := Hide.out f18_211; have q_f1_244 := Hide.out f1_244; have q_f17_244 := Hide.out f17_244; have q_f18_244 := Hide.out f18_244; have q_f1_281 := Hide.out f1_281; have q_f17_281 := Hide.out f17_281; have q_f18_281 := Hide.out f18_281; have g_c10_277 := i_rg c10_277; have g_c1_243 := i_rg c1_243; have g_c2_211 := i_rg c2_211; omega) | (have q_aq_246 := Hide.out aq_246; have q_aq_248 := Hide.out aq_248; have q_kq_278 := Hide.out kq_278; have q_kq_279 := Hide.out kq_279; have q_kq_280 := Hide.out kq_280; have q_f19_211 := Hide.out f19_211; have q_f20_211 := Hide.out f20_211; have q_rv_215 := Hide.out rv_215; have q_f20_244 := Hide.out f20_244; have q_f37_277 := Hide.out f37_277; have q_f40_277 := Hide.out f40_277; have q_f20_281 := Hide.out f20_281; have q_f1_211 := Hide.out f1_211; have q_f17_211 := Hide.out f17_211; have q_f18_211 := Hide.out f18_211; have q_f1_244 := Hide.out f1_244; have q_f17_244 := Hide.out f17_244; have q_f18_244 := Hide.out f18_244; have q_f1_281 := Hide.out f1_281; have q_f17_281 := Hide.out f17_281; have q_f18_281 := Hide.out f18_281; have q_f3_211 := Hide.out f3_211; have q_f3_244 := Hide.out f3_244; have q_f3_281 := Hide.out f3_281; have g_c10_277 := i_rg c10_277; have g_c1_243 := i_rg c1_243; have g_c2_211 := i_rg c2_211; omega)))) (gP_of hD hk_352 (fun q90 e90 q91 e91 p92 q92 e92 g92 => by cases e90; cases e91; cases e92; have z92 := gI_n hD a_r9_277 g92; subst z92; exact (by first | (have q_aq_246 := Hide.out aq_246; have q_aq_248 := Hide.out aq_248; have q_f40_277 := Hide.out f40_277; have q_kq_278 := Hide.out kq_278; have q_kq_279 := Hide.out kq_279; have q_kq_280 := Hide.out kq_280; have g_c10_277 := i_rg c10_277; have g_c1_243 := i_rg c1_243; have g_c2_211 := i_rg c2_211; omega) | (have q_aq_246 := Hide.out aq_246; have q_aq_248 := Hide.out aq_248; have q_f40_277 := Hide.out f40_277; have q_kq_278 := Hide.out kq_278; have q_kq_279 := Hide.out kq_279; have q_kq_280 := Hide.out kq_280; have q_f19_211 := Hide.out f19_211; have q_f20_211 := Hide.out f20_211; have q_rv_215 := Hide.out rv_215; have q_f20_244 := Hide.out f20_244; have q_f37_277 := Hide.out f37_277; have q_f20_281 := Hide.out f20_281; have g_c10_277 := i_rg c10_277; have g_c1_243 := i_rg c1_243; have g_c2_211 := i_rg c2_211; omega) | (have q_aq_246 := Hide.out aq_246; have q_aq_248 := Hide.out aq_248; have q_f40_277 := Hide.out f40_277; have q_kq_278 := Hide.out kq_278; have q_kq_279 := Hide.out kq_279; have q_kq_280 := Hide.out kq_280; have q_f19_211 := Hide.out f19_211; have q_f20_211 := Hide.out f20_211; have q_rv_215 := Hide.out rv_215; have q_f20_244 := Hide.out f20_244; have q_f37_277 := Hide.out f37_277; have q_f20_281 := Hide.out f20_281; have q_f1_211 := Hide.out f1_211; have q_f17_211 := Hide.out f17_211; have q_f18_211 := Hide.out f18_211; have q_f1_244 := Hide.out f1_244; have q_f17_244 := Hide.out f17_244; have q_f18_244 := Hide.out f18_244; have q_f1_281 := Hide.out f1_281; have q_f17_281 := Hide.out f17_281; have q_f18_281 := Hide.out f18_281; have g_c10_277 := i_rg c10_277; have g_c1_243 := i_rg c1_243; have g_c2_211 := i_rg c2_211; omega) | (have q_aq_246 := Hide.out aq_246; have q_aq_248 := Hide.out aq_248; have q_f40_277 := Hide.out f40_277; have q_kq_278 := Hide.out kq_278; have q_kq_279 := Hide.out kq_279; have q_kq_280 := Hide.out kq_280; have q_f19_211 := Hide.out f19_211; have q_f20_211 := Hide.out f20_211; have q_rv_215 := Hide.out rv_215; have q_f20_244 := Hide.out f20_244; have q_f37_277 := Hide.out f37_277; have q_f20_281 := Hide.out f20_281; have q_f1_211 := Hide.out f1_211; have q_f17_211 := Hide.out f17_211; have q_f18_211 := Hide.out f18_211; have q_f1_244 := Hide.out f1_244; have q_f17_244 := Hide.out f17_244; have q_f18_244 := Hide.out f18_244; have q_f1_281 := Hide.out f1_281; have q_f17_281 := Hide.out f17_281; have q_f18_281 := Hide.out f18_281; have q_f3_211 := Hide.out f3_211; have q_f3_244 := Hide.out f3_244; have q_f3_281 := Hide.out f3_281; have g_c10_277 := i_rg c10_277; have g_c1_243 := i_rg c1_243; have g_c2_211 := i_rg c2_211; omega)))) tq_353) (cwV 0 hts (gd_V kw_880 kw_901 kw_902 kw_401 kw_900) rfl rfl rfl (by decide +kernel) ⟨Nat.le_of_ble_eq_true rfl, Nat.le_of_ble_eq_true rfl⟩) ⟨gblind, va_recv hK hP (ci := 3) (q0 := k_1) rfl hk_352, fun U hU hW9 => gmk hU hW9 hP hK hD hex hE hS hFc⟩ rfl rfl hl.1 rfl (lv_room (Nat.le_of_ble_eq_true rfl)) dX3_draw_39 ⟨(show 0 + dc_219 + dc_252 + dc_288 + dc_315 + 0 ≤ PC ws + (0) from (by omega)), (show 0 + ds_220 + ds_253 + ds_289 + ds_316 + 0 ≤ PS ws + (0) from (by omega))⟩) hS (fun q _ h => hFc q h) hFc (fun  ws_354 t9 H1 locs ht9 hvm9 hw9 hB9 hz9 hk9 hS => ?_)
      obtain ⟨E_355, Fr_356, hG, hP1, hD1⟩ := hB9
      have hP : va_P (gD g) cl0 ws_354 H1 := by rw [← ht9]; exact hP1
      have hD : va_D A ws_354 := hD1.weaken (fun _ _ _ h => hFc _ h)
      clear hP1 hD1 hz9 hk9 hvm9 ht9 hw9
      generalize H1 = H at hP hS ⊢
      have aa_359 := a_r2_243
      have aa_360 := a_r3_243
      have aa_361 := a_r4_352
      have aa_362 := a_r5_311
      have aa_363 := a_r6_352
      have aa_364 := a_r7_352
      have aa_365 := a_r8_277
      have aa_366 := a_r9_277
      have aa_367 := a_r11_352
      have aa_368 := a_r12_352
      have aa_369 := a_r13_352
      have aa_370 := a_r14_352
      have aa_371 := a_r15_352
      have o_h0 := E_355.1 _ _ o_h0
      have o_b1 := E_355.1 _ _ o_b1
      have pp_372 := Fr_356.pp
      refine lv_aload_n hx hb dX3_draw_42 rfl (lv_at hl 0 rfl) ?_
      obtain ⟨fs9, hk_373, hq_373⟩ := ((gF.a (F' := []) Fr_356 (fun _ h => h))) _ _ _ hk_352
      refine opn_X3 hG hk_373 (fun v0_373 c1_373 r2_373 n2_373 r3_373 n3_373 r4_373 n4_373 r5_373 n5_373 r6_373 n6_373 r7_373 n7_373 r8_373 n8_373 r9_373 n9_373 c10_373 r11_373 n11_373 r12_373 n12_373 r13_373 n13_373 r14_373 n14_373 r15_373 n15_373 hf9 o_v0_373 a_r2_373 f2_373 a_r3_373 f4_373 a_r4_373 f6_373 a_r5_373 f8_373 a_r6_373 f10_373 a_r7_373 f12_373 a_r8_373 f14_373 a_r9_373 f16_373 a_r11_373 f18_373 a_r12_373 f20_373 a_r13_373 f22_373 a_r14_373 f24_373 a_r15_373 f26_373 f27_373 f28_373 f29_373 f30_373 f31_373 f32_373 f33_373 f34_373 f35_373 f36_373 f37_373 f38_373 f39_373 f40_373 => ?_)
      subst hf9
      have hn9 := fe_qr (hq_373 0 (by decide))
      subst hn9
      have o_b1 := o_v0_373 _ rfl
      obtain rfl := fe_i (hq_373 1 (by decide))
      obtain rfl := fe_r (hq_373 2 (by decide))
      have hn9 := gI_n hD ((E_355).1 _ _ aa_359) a_r2_373
      subst hn9
      have a_r2_243 := a_r2_373
      obtain rfl := fe_r (hq_373 3 (by decide))
      have hn9 := gI_n hD ((E_355).1 _ _ aa_360) a_r3_373
      subst hn9
      have a_r3_243 := a_r3_373
      obtain rfl := fe_r (hq_373 5 (by decide))
      have hn9 := gI_n hD ((E_355).1 _ _ aa_362) a_r5_373
      subst hn9
      have a_r5_311 := a_r5_373
      obtain rfl := fe_r (hq_373 8 (by decide))
      have hn9 := gI_n hD ((E_355).1 _ _ aa_365) a_r8_373
      subst hn9
      have a_r8_277 := a_r8_373
      obtain rfl := fe_r (hq_373 9 (by decide))
      have hn9 := gI_n hD ((E_355).1 _ _ aa_366) a_r9_373
      subst hn9
      have a_r9_277 := a_r9_373
      obtain rfl := fe_i (hq_373 10 (by decide))
      have tq_374 : gB2 ws_354 h0 := gB2_mo ((gF.tr (gF.mo (F' := []) (C' := [(3, 8), (3, 9), (3, 11), (3, 15)]) (S' := none) Fr_335 (fun _ h => h) (by decide) (Or.inr rfl)) (gF.mo (F' := []) (C' := [(3, 8), (3, 9), (3, 11), (3, 15)]) (S' := none) Fr_356 (fun _ h => h) (by decide) (Or.inr rfl)))) (by decide) (by decide) (by decide) (by decide) (by decide) xp_317
      have hFc := gfree hD hS hA
      refine va_callv (va_runV (As := []) (rest := []) ⟨hx, hb, hml, hown, hts⟩ (m_X3_findLoops l g H.size ws_354 h0 hG o_h0 (gP_of hD hk_373 (fun q90 e90 => by cases e90; exact (by first | (have q_aq_246 := Hide.out aq_246; have q_aq_248 := Hide.out aq_248; have q_kq_278 := Hide.out kq_278; have q_kq_279 := Hide.out kq_279; have q_kq_280 := Hide.out kq_280; have g_c10_277 := i_rg c10_277; have g_c1_243 := i_rg c1_243; have g_c2_211 := i_rg c2_211; omega) | (have q_aq_246 := Hide.out aq_246; have q_aq_248 := Hide.out aq_248; have q_kq_278 := Hide.out kq_278; have q_kq_279 := Hide.out kq_279; have q_kq_280 := Hide.out kq_280; have q_f19_211 := Hide.out f19_211; have q_f20_211 := Hide.out f20_211; have q_rv_215 := Hide.out rv_215; have q_f20_244 := Hide.out f20_244; have q_f37_277 := Hide.out f37_277; have q_f40_277 := Hide.out f40_277; have q_f20_281 := Hide.out f20_281; have g_c10_277 := i_rg c10_277; have g_c1_243 := i_rg c1_243; have g_c2_211 := i_rg c2_211; omega) | (have q_aq_246 := Hide.out aq_246; have q_aq_248 := Hide.out aq_248; have q_kq_278 := Hide.out kq_278; have q_kq_279 := Hide.out kq_279; have q_kq_280 := Hide.out kq_280; have q_f19_211 := Hide.out f19_211; have q_f20_211 := Hide.out f20_211; have q_rv_215 := Hide.out rv_215; have q_f20_244 := Hide.out f20_244; have q_f37_277 := Hide.out f37_277; have q_f40_277 := Hide.out f40_277; have q_f20_281 := Hide.out f20_281; have q_f1_211 := Hide.out f1_211; have q_f17_211 := Hide.out f17_211; have q_f18_211 := Hide.out f18_211; have q_f1_244 := Hide.out f1_244; have q_f17_244 := Hide.out f17_244; have q_f18_244 := Hide.out f18_244; have q_f1_281 := Hide.out f1_281; have q_f17_281 := Hide.out f17_281; have q_f18_281 := Hide.out f18_281; have g_c10_277 := i_rg c10_277; have g_c1_243 := i_rg c1_243; have g_c2_211 := i_rg c2_211; omega) | (have q_aq_246 := Hide.out aq_246; have q_aq_248 := Hide.out aq_248; have q_kq_278 := Hide.out kq_278; have q_kq_279 := Hide.out kq_279; have q_kq_280 := Hide.out kq_280; have q_f19_211 := Hide.out f19_211; have q_f20_211 := Hide.out f20_211; have q_rv_215 := Hide.out rv_215; have q_f20_244 := Hide.out f20_244; have q_f37_277 := Hide.out f37_277; have q_f40_277 := Hide.out f40_277; have q_f20_281 := Hide.out f20_281; have q_f1_211 := Hide.out f1_211; have q_f17_211 := Hide.out f17_211; have q_f18_211 := Hide.out f18_211; have q_f1_244 := Hide.out f1_244; have q_f17_244 := Hide.out f17_244; have q_f18_244 := Hide.out f18_244; have q_f1_281 := Hide.out f1_281; have q_f17_281 := Hide.out f17_281; have q_f18_281 := Hide.out f18_281; have q_f3_211 := Hide.out f3_211; have q_f3_244 := Hide.out f3_244; have q_f3_281 := Hide.out f3_281; have g_c10_277 := i_rg c10_277; have g_c1_243 := i_rg c1_243; have g_c2_211 := i_rg c2_211; omega)))) (gP_of hD hk_373 (fun q90 e90 p91 q91 e91 g91 => by cases e90; cases e91; have z91 := gI_n hD a_r8_277 g91; subst z91; exact (by first | (have q_aq_246 := Hide.out aq_246; have q_aq_248 := Hide.out aq_248; have q_f37_277 := Hide.out f37_277; have q_kq_278 := Hide.out kq_278; have q_kq_279 := Hide.out kq_279; have q_kq_280 := Hide.out kq_280; have g_c10_277 := i_rg c10_277; have g_c1_243 := i_rg c1_243; have g_c2_211 := i_rg c2_211; omega) | (have q_aq_246 := Hide.out aq_246; have q_aq_248 := Hide.out aq_248; have q_f37_277 := Hide.out f37_277; have q_kq_278 := Hide.out kq_278; have q_kq_279 := Hide.out kq_279; have q_kq_280 := Hide.out kq_280; have q_f19_211 := Hide.out f19_211; have q_f20_211 := Hide.out f20_211; have q_rv_215 := Hide.out rv_215; have q_f20_244 := Hide.out f20_244; have q_f40_277 := Hide.out f40_277; have q_f20_281 := Hide.out f20_281; have g_c10_277 := i_rg c10_277; have g_c1_243 := i_rg c1_243; have g_c2_211 := i_rg c2_211; omega) | (have q_aq_246 := Hide.out aq_246; have q_aq_248 := Hide.out aq_248; have q_f37_277 := Hide.out f37_277; have q_kq_278 := Hide.out kq_278; have q_kq_279 := Hide.out kq_279; have q_kq_280 := Hide.out kq_280; have q_f19_211 := Hide.out f19_211; have q_f20_211 := Hide.out f20_211; have q_rv_215 := Hide.out rv_215; have q_f20_244 := Hide.out f20_244; have q_f40_277 := Hide.out f40_277; have q_f20_281 := Hide.out f20_281; have q_f1_211 := Hide.out f1_211; have q_f17_211 := Hide.out f17_211; have q_f18_211 := Hide.out f18_211; have q_f1_244 := Hide.out f1_244; have q_f17_244 := Hide.out f17_244; have q_f18_244 := Hide.out f18_244; have q_f1_281 := Hide.out f1_281; have q_f17_281 := Hide.out f17_281; have q_f18_281 := Hide.out f18_281; have g_c10_277 := i_rg c10_277; have g_c1_243 := i_rg c1_243; have g_c2_211 := i_rg c2_211; omega) | (have q_aq_246 := Hide.out aq_246; have q_aq_248 := Hide.out aq_248; have q_f37_277 := Hide.out f37_277; have q_kq_278 := Hide.out kq_278; have q_kq_279 := Hide.out kq_279; have q_kq_280 := Hide.out kq_280; have q_f19_211 := Hide.out f19_211; have q_f20_211 := Hide.out f20_211; have q_rv_215 := Hide.out rv_215; have q_f20_244 := Hide.out f20_244; have q_f40_277 := Hide.out f40_277; have q_f20_281 := Hide.out f20_281; have q_f1_211 := Hide.out f1_211; have q_f17_211 := Hide.out f17_211; have q_f18_211 := Hide.out f18_211; have q_f1_244 := Hide.out f1_244; have q_f17_244 := Hide.out f17_244; have q_f18_244 := Hide.out f18_244; have q_f1_281 := Hide.out f1_281; have q_f17_281 := Hide.out f17_281; have q_f18_281 := Hide.out f18_281; have q_f3_211 := Hide.out f3_211; have q_f3_244 := Hide.out f3_244; have q_f3_281 := Hide.out f3_281; have g_c10_277 := i_rg c10_277; have g_c1_243 := i_rg c1_243; have g_c2_211 := i_rg c2_211; omega)))) (gP_of hD hk_373 (fun q90 e90 q91 e91 => by cases e90; cases e91; exact (by first | (have q_aq_246 := Hide.out aq_246; have q_aq_248 := Hide.out aq_248; have q_kq_278 := Hide.out kq_278; have q_kq_279 := Hide.out kq_279; have q_kq_280 := Hide.out kq_280; have g_c10_277 := i_rg c10_277; have g_c1_243 := i_rg c1_243; have g_c2_211 := i_rg c2_211; omega) | (have q_aq_246 := Hide.out aq_246; have q_aq_248 := Hide.out aq_248; have q_kq_278 := Hide.out kq_278; have q_kq_279 := Hide.out kq_279; have q_kq_280 := Hide.out kq_280; have q_f19_211 := Hide.out f19_211; have q_f20_211 := Hide.out f20_211; have q_rv_215 := Hide.out rv_215; have q_f20_244 := Hide.out f20_244; have q_f37_277 := Hide.out f37_277; have q_f40_277 := Hide.out f40_277; have q_f20_281 := Hide.out f20_281; have g_c10_277 := i_rg c10_277; have g_c1_243 := i_rg c1_243; have g_c2_211 := i_rg c2_211; omega) | (have q_aq_246 := Hide.out aq_246; have q_aq_248 := Hide.out aq_248; have q_kq_278 := Hide.out kq_278; have q_kq_279 := Hide.out kq_279; have q_kq_280 := Hide.out kq_280; have q_f19_211 := Hide.out f19_211; have q_f20_211 := Hide.out f20_211; have q_rv_215 := Hide.out rv_215; have q_f20_244 := Hide.out f20_244; have q_f37_277 := Hide.out f37_277; have q_f40_277 := Hide.out f40_277; have q_f20_281 := Hide.out f20_281; have q_f1_211 := Hide.out f1_211; have q_f17_211 := Hide.out f17_211; have q_f18_211 := Hide.out f18_211; have q_f1_244 := Hide.out f1_244; have q_f17_244 := Hide.out f17_244; have q_f18_244 := Hide.out f18_244; have q_f1_281 := Hide.out f1_281; have q_f17_281 := Hide.out f17_281; have q_f18_281 := Hide.out f18_281; have g_c10_277 := i_rg c10_277; have g_c1_243 := i_rg c1_243; have g_c2_211 := i_rg c2_211; omega) | (have q_aq_246 := Hide.out aq_246; have q_aq_248 := Hide.out aq_248; have q_kq_278 := Hide.out kq_278; have q_kq_279 := Hide.out kq_279; have q_kq_280 := Hide.out kq_280; have q_f19_211 := Hide.out f19_211; have q_f20_211 := Hide.out f20_211; have q_rv_215 := Hide.out rv_215; have q_f20_244 := Hide.out f20_244; have q_f37_277 := Hide.out f37_277; have q_f40_277 := Hide.out f40_277; have q_f20_281 := Hide.out f20_281; have q_f1_211 := Hide.out f1_211; have q_f17_211 := Hide.out f17_211; have q_f18_211 := Hide.out f18_211; have q_f1_244 := Hide.out f1_244; have q_f17_244 := Hide.out f17_244; have q_f18_244 := Hide.out f18_244; have q_f1_281 := Hide.out f1_281; have q_f17_281 := Hide.out f17_281; have q_f18_281 := Hide.out f18_281; have q_f3_211 := Hide.out f3_211; have q_f3_244 := Hide.out f3_244; have q_f3_281 := Hide.out f3_281; have g_c10_277 := i_rg c10_277; have g_c1_243 := i_rg c1_243; have g_c2_211 := i_rg c2_211; omega)))) (gP_of hD hk_373 (fun q90 e90 q91 e91 p92 q92 e92 g92 => by cases e90; cases e91; cases e92; have z92 := gI_n hD a_r9_277 g92; subst z92; exact (by first | (have q_aq_246 := Hide.out aq_246; have q_aq_248 := Hide.out aq_248; have q_f40_277 := Hide.out f40_277; have q_kq_278 := Hide.out kq_278; have q_kq_279 := Hide.out kq_279; have q_kq_280 := Hide.out kq_280; have g_c10_277 := i_rg c10_277; have g_c1_243 := i_rg c1_243; have g_c2_211 := i_rg c2_211; omega) | (have q_aq_246 := Hide.out aq_246; have q_aq_248 := Hide.out aq_248; have q_f40_277 := Hide.out f40_277; have q_kq_278 := Hide.out kq_278; have q_kq_279 := Hide.out kq_279; have q_kq_280 := Hide.out kq_280; have q_f19_211 := Hide.out f19_211; have q_f20_211 := Hide.out f20_211; have q_rv_215 := Hide.out rv_215; have q_f20_244 := Hide.out f20_244; have q_f37_277 := Hide.out f37_277; have q_f20_281 := Hide.out f20_281; have g_c10_277 := i_rg c10_277; have g_c1_243 := i_rg c1_243; have g_c2_211 := i_rg c2_211; omega) | (have q_aq_246 := Hide.out aq_246; have q_aq_248 := Hide.out aq_248; have q_f40_277 := Hide.out f40_277; have q_kq_278 := Hide.out kq_278; have q_kq_279 := Hide.out kq_279; have q_kq_280 := Hide.out kq_280; have q_f19_211 := Hide.out f19_211; have q_f20_211 := Hide.out f20_211; have q_rv_215 := Hide.out rv_215; have q_f20_244 := Hide.out f20_244; have q_f37_277 := Hide.out f37_277; have q_f20_281 := Hide.out f20_281; have q_f1_211 := Hide.out f1_211; have q_f17_211 := Hide.out f17_211; have q_f18_211 := Hide.out f18_211; have q_f1_244 := Hide.out f1_244; have q_f17_244 := Hide.out f17_244; have q_f18_244 := Hide.out f18_244; have q_f1_281 := Hide.out f1_281; have q_f17_281 := Hide.out f17_281; have q_f18_281 := Hide.out f18_281; have g_c10_277 := i_rg c10_277; have g_c1_243 := i_rg c1_243; have g_c2_211 := i_rg c2_211; omega) | (have q_aq_246 := Hide.out aq_246; have q_aq_248 := Hide.out aq_248; have q_f40_277 := Hide.out f40_277; have q_kq_278 := Hide.out kq_278; have q_kq_279 := Hide.out kq_279; have q_kq_280 := Hide.out kq_280; have q_f19_211 := Hide.out f19_211; have q_f20_211 := Hide.out f20_211; have q_rv_215 := Hide.out rv_215; have q_f20_244 := Hide.out f20_244; have q_f37_277 := Hide.out f37_277; have q_f20_281 := Hide.out f20_281; have q_f1_211 := Hide.out f1_211; have q_f17_211 := Hide.out f17_211; have q_f18_211 := Hide.out f18_211; have q_f1_244 := Hide.out f1_244; have q_f17_244 := Hide.out f17_244; have q_f18_244 := Hide.out f18_244; have q_f1_281 := Hide.out f1_281; have q_f17_281 := Hide.out f17_281; have q_f18_281 := Hide.out f18_281; have q_f3_211 := Hide.out f3_211; have q_f3_244 := Hide.out f3_244; have q_f3_281 := Hide.out f3_281; have g_c10_277 := i_rg c10_277; have g_c1_243 := i_rg c1_243; have g_c2_211 := i_rg c2_211; omega)))) tq_374) (cwV 0 hts (gd_V kw_881 kw_916 kw_917 kw_401 kw_915) rfl rfl rfl (by decide +kernel) ⟨Nat.le_of_ble_eq_true rfl, Nat.le_of_ble_eq_true rfl⟩) ⟨gblind, va_recv hK hP (ci := 3) (q0 := k_1) rfl hk_373, fun U hU hW9 => gmk hU hW9 hP hK hD hex hE hS hFc⟩ rfl rfl hl.1 rfl (lv_room (Nat.le_of_ble_eq_true rfl)) dX3_draw_43 ⟨(show 0 + dc_219 + dc_252 + dc_288 + dc_315 + 0 ≤ PC ws + (0) from (by omega)), (show 0 + ds_220 + ds_253 + ds_289 + ds_316 + 0 ≤ PS ws + (0) from (by omega))⟩) hS (fun q _ h => hFc q h) hFc (fun  ws_375 t9 H1 locs ht9 hvm9 hw9 hB9 hz9 hk9 hS => ?_)
      obtain ⟨E_376, Fr_377, hG, hP1, hD1⟩ := hB9
      have hP : va_P (gD g) cl0 ws_375 H1 := by rw [← ht9]; exact hP1
      have hD : va_D A ws_375 := hD1.weaken (fun _ _ _ h => hFc _ h)
      clear hP1 hD1 hz9 hk9 hvm9 ht9 hw9
      generalize H1 = H at hP hS ⊢
      have aa_380 := a_r2_243
      have aa_381 := a_r3_243
      have aa_382 := a_r4_373
      have aa_383 := a_r5_311
      have aa_384 := a_r6_373
      have aa_385 := a_r7_373
      have aa_386 := a_r8_277
      have aa_387 := a_r9_277
      have aa_388 := a_r11_373
      have aa_389 := a_r12_373
      have aa_390 := a_r13_373
      have aa_391 := a_r14_373
      have aa_392 := a_r15_373
      have o_h0 := E_376.1 _ _ o_h0
      have o_b1 := E_376.1 _ _ o_b1
      have pp_393 := Fr_377.pp
      have tq_394 : gE2 ws_375 h0 := gE2_mo ((gF.tr (gF.mo (F' := []) (C' := [(3, 9), (3, 11), (3, 12), (3, 13), (3, 14), (3, 15)]) (S' := none) Fr_356 (fun _ h => h) (by decide) (Or.inr rfl)) (gF.mo (F' := []) (C' := [(3, 9), (3, 11), (3, 12), (3, 13), (3, 14), (3, 15)]) (S' := none) Fr_377 (fun _ h => h) (by decide) (Or.inr rfl)))) (by decide) (by decide) (by decide) (by decide) (by decide) tq_353
      obtain ⟨N_gE2, hN_gE21, hN_gE22⟩ := id tq_394
      obtain ⟨fs9, hk_395, hq_395⟩ := ((gF.a (F' := []) Fr_377 (fun _ h => h))) _ _ _ hk_373
      refine opn_X3 hG hk_395 (fun v0_395 c1_395 r2_395 n2_395 r3_395 n3_395 r4_395 n4_395 r5_395 n5_395 r6_395 n6_395 r7_395 n7_395 r8_395 n8_395 r9_395 n9_395 c10_395 r11_395 n11_395 r12_395 n12_395 r13_395 n13_395 r14_395 n14_395 r15_395 n15_395 hf9 o_v0_395 a_r2_395 f2_395 a_r3_395 f4_395 a_r4_395 f6_395 a_r5_395 f8_395 a_r6_395 f10_395 a_r7_395 f12_395 a_r8_395 f14_395 a_r9_395 f16_395 a_r11_395 f18_395 a_r12_395 f20_395 a_r13_395 f22_395 a_r14_395 f24_395 a_r15_395 f26_395 f27_395 f28_395 f29_395 f30_395 f31_395 f32_395 f33_395 f34_395 f35_395 f36_395 f37_395 f38_395 f39_395 f40_395 => ?_)
      subst hf9
      have hn9 := fe_qr (hq_395 0 (by decide))
      subst hn9
      have o_b1 := o_v0_395 _ rfl
      obtain rfl := fe_i (hq_395 1 (by decide))
      obtain rfl := fe_r (hq_395 2 (by decide))
      have hn9 := gI_n hD ((E_376).1 _ _ aa_380) a_r2_395
      subst hn9
      have a_r2_243 := a_r2_395
      obtain rfl := fe_r (hq_395 3 (by decide))
      have hn9 := gI_n hD ((E_376).1 _ _ aa_381) a_r3_395
      subst hn9
      have a_r3_243 := a_r3_395
      obtain rfl := fe_r (hq_395 5 (by decide))
      have hn9 := gI_n hD ((E_376).1 _ _ aa_383) a_r5_395
      subst hn9
      have a_r5_311 := a_r5_395
      obtain rfl := fe_r (hq_395 8 (by decide))
      have hn9 := gI_n hD ((E_376).1 _ _ aa_386) a_r8_395
      subst hn9
      have a_r8_277 := a_r8_395
      obtain rfl := fe_r (hq_395 9 (by decide))
      have hn9 := gI_n hD ((E_376).1 _ _ aa_387) a_r9_395
      subst hn9
      have a_r9_277 := a_r9_395
      obtain rfl := fe_i (hq_395 10 (by decide))
      obtain ⟨k_396, f_396, hk_396⟩ := gI_of a_r4_395
      obtain ⟨k_397, f_397, hk_397⟩ := gI_of a_r5_311
      obtain ⟨k_398, f_398, hk_398⟩ := gI_of a_r2_243
      obtain ⟨k_399, f_399, hk_399⟩ := gI_of a_r8_277
      have tq_400 : grR ws_375 h0 := ⟨N_gE2, aC_of hk_395 rfl rfl hk_396 (Or.inr ((aC_at hD hk_395 rfl rfl hk_396 hN_gE21).w (by first | (have q_aq_246 := Hide.out aq_246; have q_aq_248 := Hide.out aq_248; have q_kq_278 := Hide.out kq_278; have q_kq_279 := Hide.out kq_279; have q_kq_280 := Hide.out kq_280; have g_c10_277 := i_rg c10_277; have g_c1_243 := i_rg c1_243; have g_c2_211 := i_rg c2_211; omega) | (have q_aq_246 := Hide.out aq_246; have q_aq_248 := Hide.out aq_248; have q_kq_278 := Hide.out kq_278; have q_kq_279 := Hide.out kq_279; have q_kq_280 := Hide.out kq_280; have q_f19_211 := Hide.out f19_211; have q_f20_211 := Hide.out f20_211; have q_rv_215 := Hide.out rv_215; have q_f20_244 := Hide.out f20_244; have q_f37_277 := Hide.out f37_277; have q_f40_277 := Hide.out f40_277; have q_f20_281 := Hide.out f20_281; have g_c10_277 := i_rg c10_277; have g_c1_243 := i_rg c1_243; have g_c2_211 := i_rg c2_211; omega) | (have q_aq_246 := Hide.out aq_246; have q_aq_248 := Hide.out aq_248; have q_kq_278 := Hide.out kq_278; have q_kq_279 := Hide.out kq_279; have q_kq_280 := Hide.out kq_280; have q_f19_211 := Hide.out f19_211; have q_f20_211 := Hide.out f20_211; have q_rv_215 := Hide.out rv_215; have q_f20_244 := Hide.out f20_244; have q_f37_277 := Hide.out f37_277; have q_f40_277 := Hide.out f40_277; have q_f20_281 := Hide.out f20_281; have q_f1_211 := Hide.out f1_211; have q_f17_211 := Hide.out f17_211; have q_f18_211 := Hide.out f18_211; have q_f1_244 := Hide.out f1_244; have q_f17_244 := Hide.out f17_244; have q_f18_244 := Hide.out f18_244; have q_f1_281 := Hide.out f1_281; have q_f17_281 := Hide.out f17_281; have q_f18_281 := Hide.out f18_281; have g_c10_277 := i_rg c10_277; have g_c1_243 := i_rg c1_243; have g_c2_211 := i_rg c2_211; omega) | (have q_aq_246 := Hide.out aq_246; have q_aq_248 := Hide.out aq_248; have q_kq_278 := Hide.out kq_278; have q_kq_279 := Hide.out kq_279; have q_kq_280 := Hide.out kq_280; have q_f19_211 := Hide.out f19_211; have q_f20_211 := Hide.out f20_211; have q_rv_215 := Hide.out rv_215; have q_f20_244 := Hide.out f20_244; have q_f37_277 := Hide.out f37_277; have q_f40_277 := Hide.out f40_277; have q_f20_281 := Hide.out f20_281; have q_f1_211 := Hide.out f1_211; have q_f17_211 := Hide.out f17_211; have q_f18_211 := Hide.out f18_211; have q_f1_244 := Hide.out f1_244; have q_f17_244 := Hide.out f17_244; have q_f18_244 := Hide.out f18_244; have q_f1_281 := Hide.out f1_281; have q_f17_281 := Hide.out f17_281; have q_f18_281 := Hide.out f18_281; have q_f3_211 := Hide.out f3_211; have q_f3_244 := Hide.out f3_244; have q_f3_281 := Hide.out f3_281; have g_c10_277 := i_rg c10_277; have g_c1_243 := i_rg c1_243; have g_c2_211 := i_rg c2_211; omega)))), aC_of hk_395 rfl rfl hk_397 ⟨(aC_at hD hk_395 rfl rfl hk_397 hN_gE22).2.1, (aC_at hD hk_395 rfl rfl hk_397 hN_gE22).2.2.2.1⟩, aC_of hk_395 rfl rfl hk_398 (show _ ≤ _ from (by first | (have q_aq_246 := Hide.out aq_246; have q_aq_248 := Hide.out aq_248; have q_kq_278 := Hide.out kq_278; have q_kq_279 := Hide.out kq_279; have q_kq_280 := Hide.out kq_280; have g_c10_277 := i_rg c10_277; have g_c1_243 := i_rg c1_243; have g_c2_211 := i_rg c2_211; omega) | (have q_aq_246 := Hide.out aq_246; have q_aq_248 := Hide.out aq_248; have q_kq_278 := Hide.out kq_278; have q_kq_279 := Hide.out kq_279; have q_kq_280 := Hide.out kq_280; have q_f19_211 := Hide.out f19_211; have q_f20_211 := Hide.out f20_211; have q_rv_215 := Hide.out rv_215; have q_f20_244 := Hide.out f20_244; have q_f37_277 := Hide.out f37_277; have q_f40_277 := Hide.out f40_277; have q_f20_281 := Hide.out f20_281; have g_c10_277 := i_rg c10_277; have g_c1_243 := i_rg c1_243; have g_c2_211 := i_rg c2_211; omega) | (have q_aq_246 := Hide.out aq_246; have q_aq_248 := Hide.out aq_248; have q_kq_278 := Hide.out kq_278; have q_kq_279 := Hide.out kq_279; have q_kq_280 := Hide.out kq_280; have q_f19_211 := Hide.out f19_211; have q_f20_211 := Hide.out f20_211; have q_rv_215 := Hide.out rv_215; have q_f20_244 := Hide.out f20_244; have q_f37_277 := Hide.out f37_277; have q_f40_277 := Hide.out f40_277; have q_f20_281 := Hide.out f20_281; have q_f1_211 := Hide.out f1_211; have q_f17_211 := Hide.out f17_211; have q_f18_211 := Hide.out f18_211; have q_f1_244 := Hide.out f1_244; have q_f17_244 := Hide.out f17_244; have q_f18_244 := Hide.out f18_244; have q_f1_281 := Hide.out f1_281; have q_f17_281 := Hide.out f17_281; have q_f18_281 := Hide.out f18_281; have g_c10_277 := i_rg c10_277; have g_c1_243 := i_rg c1_243; have g_c2_211 := i_rg c2_211; omega) | (have q_aq_246 := Hide.out aq_246; have q_aq_248 := Hide.out aq_248; have q_kq_278 := Hide.out kq_278; have q_kq_279 := Hide.out kq_279; have q_kq_280 := Hide.out kq_280; have q_f19_211 := Hide.out f19_211; have q_f20_211 := Hide.out f20_211; have q_rv_215 := Hide.out rv_215; have q_f20_244 := Hide.out f20_244; have q_f37_277 := Hide.out f37_277; have q_f40_277 := Hide.out f40_277; have q_f20_281 := Hide.out f20_281; have q_f1_211 := Hide.out f1_211; have q_f17_211 := Hide.out f17_211; have q_f18_211 := Hide.out f18_211; have q_f1_244 := Hide.out f1_244; have q_f17_244 := Hide.out f17_244; have q_f18_244 := Hide.out f18_244; have q_f1_281 := Hide.out f1_281; have q_f17_281 := Hide.out f17_281; have q_f18_281 := Hide.out f18_281; have q_f3_211 := Hide.out f3_211; have q_f3_244 := Hide.out f3_244; have q_f3_281 := Hide.out f3_281; have g_c10_277 := i_rg c10_277; have g_c1_243 := i_rg c1_243; have g_c2_211 := i_rg c2_211; omega))), aC_of hk_395 rfl rfl hk_399 (show _ ≤ _ from (by first | (have q_aq_246 := Hide.out aq_246; have q_aq_248 := Hide.out aq_248; have q_f37_277 := Hide.out f37_277; have q_kq_278 := Hide.out kq_278; have q_kq_279 := Hide.out kq_279; have q_kq_280 := Hide.out kq_280; have g_c10_277 := i_rg c10_277; have g_c1_243 := i_rg c1_243; have g_c2_211 := i_rg c2_211; omega) | (have q_aq_246 := Hide.out aq_246; have q_aq_248 := Hide.out aq_248; have q_f37_277 := Hide.out f37_277; have q_kq_278 := Hide.out kq_278; have q_kq_279 := Hide.out kq_279; have q_kq_280 := Hide.out kq_280; have q_f19_211 := Hide.out f19_211; have q_f20_211 := Hide.out f20_211; have q_rv_215 := Hide.out rv_215; have q_f20_244 := Hide.out f20_244; have q_f40_277 := Hide.out f40_277; have q_f20_281 := Hide.out f20_281; have g_c10_277 := i_rg c10_277; have g_c1_243 := i_rg c1_243; have g_c2_211 := i_rg c2_211; omega) | (have q_aq_246 := Hide.out aq_246; have q_aq_248 := Hide.out aq_248; have q_f37_277 := Hide.out f37_277; have q_kq_278 := Hide.out kq_278; have q_kq_279 := Hide.out kq_279; have q_kq_280 := Hide.out kq_280; have q_f19_211 := Hide.out f19_211; have q_f20_211 := Hide.out f20_211; have q_rv_215 := Hide.out rv_215; have q_f20_244 := Hide.out f20_244; have q_f40_277 := Hide.out f40_277; have q_f20_281 := Hide.out f20_281; have q_f1_211 := Hide.out f1_211; have q_f17_211 := Hide.out f17_211; have q_f18_211 := Hide.out f18_211; have q_f1_244 := Hide.out f1_244; have q_f17_244 := Hide.out f17_244; have q_f18_244 := Hide.out f18_244; have q_f1_281 := Hide.out f1_281; have q_f17_281 := Hide.out f17_281; have q_f18_281 := Hide.out f18_281; have g_c10_277 := i_rg c10_277; have g_c1_243 := i_rg c1_243; have g_c2_211 := i_rg c2_211; omega) | (have q_aq_246 := Hide.out aq_246; have q_aq_248 := Hide.out aq_248; have q_f37_277 := Hide.out f37_277; have q_kq_278 := Hide.out kq_278; have q_kq_279 := Hide.out kq_279; have q_kq_280 := Hide.out kq_280; have q_f19_211 := Hide.out f19_211; have q_f20_211 := Hide.out f20_211; have q_rv_215 := Hide.out rv_215; have q_f20_244 := Hide.out f20_244; have q_f40_277 := Hide.out f40_277; have q_f20_281 := Hide.out f20_281; have q_f1_211 := Hide.out f1_211; have q_f17_211 := Hide.out f17_211; have q_f18_211 := Hide.out f18_211; have q_f1_244 := Hide.out f1_244; have q_f17_244 := Hide.out f17_244; have q_f18_244 := Hide.out f18_244; have q_f1_281 := Hide.out f1_281; have q_f17_281 := Hide.out f17_281; have q_f18_281 := Hide.out f18_281; have q_f3_211 := Hide.out f3_211; have q_f3_244 := Hide.out f3_244; have q_f3_281 := Hide.out f3_281; have g_c10_277 := i_rg c10_277; have g_c1_243 := i_rg c1_243; have g_c2_211 := i_rg c2_211; omega)))⟩
      refine W_led (fun hLd => ?_)
      have hcl : 0 + dc_219 + dc_252 + dc_288 + dc_315 + PC ws_375 ≤ PC ws + (0) := (by omega)
      have hsl : 0 + ds_220 + ds_253 + ds_289 + ds_316 + PS ws_375 ≤ PS ws + (0) := (by omega)
      refine W.widen (k := PC ws + (0)) (n := PS ws + (0)) (by omega) (by omega) ?_
      exact W.vret hx hb hr (fun t9 ht9 hW9 => ⟨⟨ws_375, rfl, ⟨trivial, (gN_of hD hk_395 (j := 0) rfl), tq_400⟩, ⟨(E_206.tr (E_217.tr (E_250.tr (E_286.tr (E_313.tr (E_334.tr (E_355.tr E_376))))))), (gF.tr (gF.mo (F' := [(3, 0), (3, 1), (3, 2), (3, 3), (3, 4), (3, 5), (3, 6), (3, 7), (3, 8), (3, 9), (3, 10), (3, 11), (3, 12), (3, 13), (3, 14), (3, 15)]) (C' := [(3, 2), (3, 3), (3, 4), (3, 5), (3, 6), (3, 7), (3, 8), (3, 9), (3, 11), (3, 12), (3, 13), (3, 14), (3, 15)]) (S' := none) Fr_207 (by decide) (fun _ h => absurd h List.not_mem_nil) (Or.inl rfl)) (gF.tr (gF.mo (F' := [(3, 0), (3, 1), (3, 2), (3, 3), (3, 4), (3, 5), (3, 6), (3, 7), (3, 8), (3, 9), (3, 10), (3, 11), (3, 12), (3, 13), (3, 14), (3, 15)]) (C' := [(3, 2), (3, 3), (3, 4), (3, 5), (3, 6), (3, 7), (3, 8), (3, 9), (3, 11), (3, 12), (3, 13), (3, 14), (3, 15)]) (S' := none) Fr_218 (by decide) (by decide) (Or.inr rfl)) (gF.tr (gF.mo (F' := [(3, 0), (3, 1), (3, 2), (3, 3), (3, 4), (3, 5), (3, 6), (3, 7), (3, 8), (3, 9), (3, 10), (3, 11), (3, 12), (3, 13), (3, 14), (3, 15)]) (C' := [(3, 2), (3, 3), (3, 4), (3, 5), (3, 6), (3, 7), (3, 8), (3, 9), (3, 11), (3, 12), (3, 13), (3, 14), (3, 15)]) (S' := none) Fr_251 (by decide) (fun _ h => absurd h List.not_mem_nil) (Or.inr rfl)) (gF.tr (gF.mo (F' := [(3, 0), (3, 1), (3, 2), (3, 3), (3, 4), (3, 5), (3, 6), (3, 7), (3, 8), (3, 9), (3, 10), (3, 11), (3, 12), (3, 13), (3, 14), (3, 15)]) (C' := [(3, 2), (3, 3), (3, 4), (3, 5), (3, 6), (3, 7), (3, 8), (3, 9), (3, 11), (3, 12), (3, 13), (3, 14), (3, 15)]) (S' := none) Fr_287 (by decide) (by decide) (Or.inr rfl)) (gF.tr (gF.mo (F' := [(3, 0), (3, 1), (3, 2), (3, 3), (3, 4), (3, 5), (3, 6), (3, 7), (3, 8), (3, 9), (3, 10), (3, 11), (3, 12), (3, 13), (3, 14), (3, 15)]) (C' := [(3, 2), (3, 3), (3, 4), (3, 5), (3, 6), (3, 7), (3, 8), (3, 9), (3, 11), (3, 12), (3, 13), (3, 14), (3, 15)]) (S' := none) Fr_314 (by decide) (by decide) (Or.inr rfl)) (gF.tr (gF.mo (F' := [(3, 0), (3, 1), (3, 2), (3, 3), (3, 4), (3, 5), (3, 6), (3, 7), (3, 8), (3, 9), (3, 10), (3, 11), (3, 12), (3, 13), (3, 14), (3, 15)]) (C' := [(3, 2), (3, 3), (3, 4), (3, 5), (3, 6), (3, 7), (3, 8), (3, 9), (3, 11), (3, 12), (3, 13), (3, 14), (3, 15)]) (S' := none) Fr_335 (fun _ h => absurd h List.not_mem_nil) (by decide) (Or.inr rfl)) (gF.tr (gF.mo (F' := [(3, 0), (3, 1), (3, 2), (3, 3), (3, 4), (3, 5), (3, 6), (3, 7), (3, 8), (3, 9), (3, 10), (3, 11), (3, 12), (3, 13), (3, 14), (3, 15)]) (C' := [(3, 2), (3, 3), (3, 4), (3, 5), (3, 6), (3, 7), (3, 8), (3, 9), (3, 11), (3, 12), (3, 13), (3, 14), (3, 15)]) (S' := none) Fr_356 (fun _ h => absurd h List.not_mem_nil) (by decide) (Or.inr rfl)) (gF.mo (F' := [(3, 0), (3, 1), (3, 2), (3, 3), (3, 4), (3, 5), (3, 6), (3, 7), (3, 8), (3, 9), (3, 10), (3, 11), (3, 12), (3, 13), (3, 14), (3, 15)]) (C' := [(3, 2), (3, 3), (3, 4), (3, 5), (3, 6), (3, 7), (3, 8), (3, 9), (3, 11), (3, 12), (3, 13), (3, 14), (3, 15)]) (S' := none) Fr_377 (fun _ h => absurd h List.not_mem_nil) (by decide) (Or.inr rfl))))))))), hG, by rw [ht9]; exact hP, hD, _, _, by rw [ht9]; exact hLd, hcl, hsl⟩⟩, hS.F ht9⟩) hS.2.2 dX3_draw_46
    · refine W_led (fun hLd => ?_)
      have hcl : 0 + PC ws ≤ PC ws + (0) := (by have e0 : (0 : Int32).toInt = 0 := (by decide); omega)
      have hsl : 0 + PS ws ≤ PS ws + (0) := (by have e0 : (0 : Int32).toInt = 0 := (by decide); omega)
      refine W.widen (k := PC ws + (0)) (n := PS ws + (0)) (by omega) (by omega) ?_
      exact W.vret hx hb hr (fun t9 ht9 hW9 => ⟨⟨ws, rfl, ⟨trivial, (gN_of hD hk_1 (j := 0) rfl), tk0⟩, ⟨gE.rf, gF.rf, hG, by rw [ht9]; exact hP, hD, _, _, by rw [ht9]; exact hLd, hcl, hsl⟩⟩, hS.F ht9⟩) hS.2.2 dX3_draw_12
