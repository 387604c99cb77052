set_option maxHeartbeats 6000000 in
set_option maxRecDepth 100000 in
theorem m_X11_begin (l : Launch) (g : Gm) (H0 : Heap) (ws : va_W) (h0 : Nat) (b1 : Nat) (x2 : Int32) (wb : Int) (wc : Int) (hG : Good g ws) (o_h0 : gC ws h0 10) (o_b1 : gC ws b1 9) (tk0 : nuU ws b1) (tk1 : enW g ws h0) (tk2 : wcP ws h0 0 wb wc) (pwb : wb ≤ 131072 ∧ wc ≤ 131072) (pwc : 0 ≤ wb ∧ 0 ≤ wc ∧ (204) ≤ 131072 ∧ (103) ≤ 131072) : Met l yX11_begin (wt yX11_begin cX11_begin 7 none) ({ frames := 5, cells := PC ws + (0), slots := PS ws + (0), locals := 129 }) (va_Pc [.ref h0, .ref b1, .int x2] (st_H g H0 ws)) (va_Qv (fun (u9 : va_W) => (True) ∧ (gN u9 h0 7) ∧ (enP g u9 h0) ∧ (nlA9 u9 h0) ∧ (nlA10 u9 h0) ∧ (wcP u9 h0 0 (204) (103))) (gQ2 g [(0, 0), (0, 1), (10, 5), (10, 6), (10, 7), (10, 8), (10, 9)] [(0, 0), (6, 0), (10, 3), (10, 4), (10, 10), (10, 11), (10, 12), (10, 13)] none (va_A ws H0.size) ws H0 (0) (0)) (va_A ws H0.size)) (PC ws + (0)) (PS ws + (0)) (va_A ws H0.size) := by
  refine Met.ofW (cc := cX11_begin) (maxL := 7) (ret := none) (by decide) rfl ?_
  intro p e s m args below meth c s₁ B hml hv
  obtain ⟨rfl, hH0, hsz, hP, hK, hD0, hex, hE⟩ := hv
  have hx := B.exec
  have hb := B.bytes
  have hr := B.returns
  have hts0 := atoms_spec (ws := wt yX11_begin cX11_begin 7 none) B.pre
  have hts : ∀ w ∈ tb, w.before _ s = true := fun w h => hts0 w (List.mem_cons_of_mem _ h)
  have hown : s.vm.findClass RX11 = some m.cls := findClass_of_methodNamed B.named
  subst hH0
  have hD := hD0.self (sz := s.heap.size)
  generalize hAe : va_A ws s.heap.size = A at hD hE ⊢
  have hA : ∀ q : Nat, s.heap.size ≤ q → A q := fun q h => by rw [← hAe]; exact Or.inr h
  have hS : va_S A s.heap s.heap [] := va_S.rf
  have hl := lv_entry ([.ref h0, .ref b1, .int x2]) (n := 7) (Nat.le_of_ble_eq_true rfl)
  rw [lg_entry_eq]
  generalize (lg_sl ([.ref h0, .ref b1, .int x2]) ++ List.replicate (7 - (lg_sl ([.ref h0, .ref b1, .int x2])).length) Slot.unset).toArray = ls at hl ⊢
  replace pwb := hide pwb
  replace pwc := hide pwc
  have hl : lv_has ls 7 [(0, .ref h0), (1, .ref b1), (2, .int x2)] := hl
  refine lv_aload_n hx hb dX11_begin_0 rfl (lv_at hl 0 rfl) ?_
  refine lv_aload_n hx hb dX11_begin_1 rfl (lv_at hl 1 rfl) ?_
  obtain ⟨k_1, fs9, hk_1⟩ := gC_of o_h0
  refine opn_X11 hG hk_1 (fun r0_1 r1_1 r2_1 r3_1 n3_1 r4_1 n4_1 c5_1 c6_1 v7_1 c8_1 c9_1 r10_1 n10_1 r11_1 n11_1 r12_1 n12_1 r13_1 n13_1 r14_1 v15_1 r16_1 n16_1 r17_1 n17_1 hf9 o_r0_1 o_r1_1 o_r2_1 a_r3_1 f4_1 a_r4_1 f6_1 hz_c6_1 o_v7_1 a_r10_1 f10_1 a_r11_1 f12_1 a_r12_1 f14_1 a_r13_1 f16_1 o_r14_1 o_v15_1 a_r16_1 f20_1 a_r17_1 f22_1 f23_1 f24_1 f25_1 f26_1 f27_1 f28_1 => ?_)
  subst hf9
  have hV9 : okv ws 10 7 (.ref b1) := (okv_o hD o_b1)
  refine va_put (D := gD g) (ci := 10) (v := .ref b1) (ty := (.object "CodeFoundry$Unit")) (C := RX11) (T := TX11) (N := 18) hx hb hts inX11 tyX11 tyX11_ok nmX11 hown hK hP hD hS k_1 hk_1 rfl 7 (by decide) (hts _ kw_86) (fun _ h9 => h9) rfl (by decide +kernel) rfl rfl (Nat.le_of_ble_eq_true rfl) dX11_begin_2 (fun H locs hP hD hS => ?_)
  have hi_2 : invX11 g ws h0 [.ref r0_1, .ref r1_1, .ref r2_1, .ref r3_1, .ref r4_1, .int c5_1, .int c6_1, .ref b1, .int c8_1, .int c9_1, .ref r10_1, .ref r11_1, .ref r12_1, .ref r13_1, .ref r14_1, va_rf v15_1, .ref r16_1, .ref r17_1] := ⟨r0_1, r1_1, r2_1, r3_1, (n3_1), r4_1, (n4_1), (c5_1), (c6_1), (some b1), (c8_1), (c9_1), r10_1, (n10_1), r11_1, (n11_1), r12_1, (n12_1), r13_1, (n13_1), r14_1, v15_1, r16_1, (n16_1), r17_1, (n17_1), rfl, o_r0_1, o_r1_1, o_r2_1, a_r3_1, f4_1, a_r4_1, f6_1, hz_c6_1, (fun b h9 => by cases h9; exact o_b1), a_r10_1, f10_1, a_r11_1, f12_1, a_r12_1, f14_1, a_r13_1, f16_1, o_r14_1, o_v15_1, a_r16_1, f20_1, a_r17_1, f22_1, f23_1, f24_1, f25_1, f26_1, f27_1, f28_1, trivial⟩
  obtain ⟨ws_3, e_ws_3⟩ : ∃ z, z = ws.set k_1 (h0, .inr (10, [.ref r0_1, .ref r1_1, .ref r2_1, .ref r3_1, .ref r4_1, .int c5_1, .int c6_1, .ref b1, .int c8_1, .int c9_1, .ref r10_1, .ref r11_1, .ref r12_1, .ref r13_1, .ref r14_1, va_rf v15_1, .ref r16_1, .ref r17_1])) := ⟨_, rfl⟩
  have hP : va_P (gD g) cl0 ws_3 H := by rw [e_ws_3]; exact hP
  have hD : va_D A ws_3 := by rw [e_ws_3]; exact hD
  have E_4 : gE ws ws_3 := gE_set e_ws_3 hk_1 (cw_o (fi := 7) (v := .ref b1) rfl (by decide))
  have hG : Good g ws_3 := Good_set (fi := 7) (v := .ref b1) e_ws_3 hk_1 E_4 rfl hV9 hG (ivX11 hi_2)
  have Fr_5 : gF [(10, 7)] [] (some h0) ws ws_3 := gF_put (fi := 7) (v := .ref b1) e_ws_3 hk_1 rfl (by decide)
  have pp_6 := Fr_5.pp
  have hkN := gset_self e_ws_3 hk_1
  have hk_1 := hkN
  have o_h0 := E_4.1 _ _ o_h0
  have o_b1 := E_4.1 _ _ o_b1
  have o_r0_1 := E_4.1 _ _ o_r0_1
  have o_r1_1 := E_4.1 _ _ o_r1_1
  have o_r2_1 := E_4.1 _ _ o_r2_1
  have a_r3_1 := E_4.1 _ _ a_r3_1
  have a_r4_1 := E_4.1 _ _ a_r4_1
  have a_r10_1 := E_4.1 _ _ a_r10_1
  have a_r11_1 := E_4.1 _ _ a_r11_1
  have a_r12_1 := E_4.1 _ _ a_r12_1
  have a_r13_1 := E_4.1 _ _ a_r13_1
  have o_r14_1 := E_4.1 _ _ o_r14_1
  have o_v15_1 : ∀ b, v15_1 = some b → gC ws_3 b 7 := fun b h => E_4.1 _ _ (o_v15_1 b h)
  have a_r16_1 := E_4.1 _ _ a_r16_1
  have a_r17_1 := E_4.1 _ _ a_r17_1
  have tq_7 : nuU ws_3 b1 := nuU_mo ((gF.mo (F' := [(10, 7)]) (C' := []) (S' := none) Fr_5 (fun _ h => h) (fun _ h => h) (Or.inl rfl))) (by decide) (by decide) (by decide) (by decide) (by decide) (by decide) (by decide) (by decide) (by decide) (by decide) (by decide) (by decide) tk0
  have tq_8 : nlA5 ws_3 h0 := nuU_A hk_1 rfl (by decide) tq_7
  have tq_9 : nlA6 ws_3 h0 := nuU_A hk_1 rfl (by decide) tq_7
  have tq_10 : nlA9 ws_3 h0 := nuU_A hk_1 rfl (by decide) tq_7
  have tq_11 : nlA10 ws_3 h0 := nuU_A hk_1 rfl (by decide) tq_7
  have tq_12 : nlI2 ws_3 h0 := nuU_I hk_1 rfl (by decide) tq_7
  have tq_13 : nlI3 ws_3 h0 := nuU_I hk_1 rfl (by decide) tq_7
  refine lv_aload_n hx hb dX11_begin_5 rfl (lv_at hl 0 rfl) ?_
  refine va_get (D := gD g) (ci := 10) (v := .ref r0_1) (C := RX11) (T := TX11) (N := 18) hx hb hts inX11 hown hK hP k_1 hk_1 rfl 0 (by decide) (hts _ kw_113) (fun _ h9 => h9) rfl dX11_begin_6 ?_
  refine lv_iconst (v := 0) hx hb dX11_begin_9 (by decide) ?_
  have tq_14 : wcP ws_3 h0 0 wb wc := wcP_mo ((gF.mo (F' := [(10, 7)]) (C' := []) (S' := none) Fr_5 (fun _ h => h) (fun _ h => h) (Or.inl rfl))) (by decide) (by decide) (by decide) (by decide) (by decide) tk2
  have hkW := hk_1
  have hDW := hD
  obtain ⟨k_15, fs9, hk_15⟩ := gC_of o_r0_1
  refine opn_X0 hG hk_15 (fun r0_15 n0_15 c1_15 hf9 a_r0_15 f1_15 f2_15 f3_15 f4_15 f5_15 => ?_)
  subst hf9
  have hV9 : okv ws_3 0 1 (.int 0) := okv_i
  refine va_put (D := gD g) (ci := 0) (v := .int 0) (ty := .int) (C := RX0) (T := TX0) (N := 2) hx hb hts inX0 tyX0 tyX0_ok nmX0 hown hK hP hD hS k_15 hk_15 rfl 1 (by decide) (hts _ kw_101) (fun _ h9 => h9) rfl (by decide +kernel) rfl rfl (Nat.le_of_ble_eq_true rfl) dX11_begin_10 (fun H locs hP hD hS => ?_)
  have f_16 : 0 ≤ (0 : Int32).toInt := (by have e0 : (0 : Int32).toInt = 0 := (by decide); omega)
  replace f_16 := hide f_16
  have f_17 : (0 : Int32).toInt ≤ n0_15 := (by first | (have e0 : (0 : Int32).toInt = 0 := (by decide); have q_f1_15 := Hide.out f1_15; have q_f3_15 := Hide.out f3_15; have q_f4_15 := Hide.out f4_15; have q_f5_15 := Hide.out f5_15; have q_f_16 := Hide.out f_16; have g_c1_15 := i_rg c1_15; omega) | (have e0 : (0 : Int32).toInt = 0 := (by decide); have q_f1_15 := Hide.out f1_15; have q_f3_15 := Hide.out f3_15; have q_f4_15 := Hide.out f4_15; have q_f5_15 := Hide.out f5_15; have q_f_16 := Hide.out f_16; have q_f2_15 := Hide.out f2_15; have g_c1_15 := i_rg c1_15; omega))
  replace f_17 := hide f_17
  have hi_18 : invX0 g ws_3 r0_1 [.ref r0_15, .int 0] := ⟨r0_15, (n0_15), (0), rfl, a_r0_15, f1_15, f_16, f_17, f4_15, f5_15, trivial⟩
  obtain ⟨ws_19, e_ws_19⟩ : ∃ z, z = ws_3.set k_15 (r0_1, .inr (0, [.ref r0_15, .int 0])) := ⟨_, rfl⟩
  have hP : va_P (gD g) cl0 ws_19 H := by rw [e_ws_19]; exact hP
  have hD : va_D A ws_19 := by rw [e_ws_19]; exact hD
  have E_20 : gE ws_3 ws_19 := gE_set e_ws_19 hk_15 (cw_o (fi := 1) (v := .int 0) rfl (by decide))
  have hG : Good g ws_19 := Good_set (fi := 1) (v := .int 0) e_ws_19 hk_15 E_20 rfl hV9 hG (ivX0 hi_18)
  have Fr_21 : gF [(0, 1)] [] (some r0_1) ws_3 ws_19 := gF_put (fi := 1) (v := .int 0) e_ws_19 hk_15 rfl (by decide)
  have pp_22 := Fr_21.pp
  have hkN := gset_self e_ws_19 hk_15
  have hk_1 := gset_ob e_ws_19 hk_15 hk_1 (by decide)
  have hk_15 := hkN
  have o_h0 := E_20.1 _ _ o_h0
  have o_b1 := E_20.1 _ _ o_b1
  have o_r0_1 := E_20.1 _ _ o_r0_1
  have o_r1_1 := E_20.1 _ _ o_r1_1
  have o_r2_1 := E_20.1 _ _ o_r2_1
  have a_r3_1 := E_20.1 _ _ a_r3_1
  have a_r4_1 := E_20.1 _ _ a_r4_1
  have a_r10_1 := E_20.1 _ _ a_r10_1
  have a_r11_1 := E_20.1 _ _ a_r11_1
  have a_r12_1 := E_20.1 _ _ a_r12_1
  have a_r13_1 := E_20.1 _ _ a_r13_1
  have o_r14_1 := E_20.1 _ _ o_r14_1
  have o_v15_1 : ∀ b, v15_1 = some b → gC ws_19 b 7 := fun b h => E_20.1 _ _ (o_v15_1 b h)
  have a_r16_1 := E_20.1 _ _ a_r16_1
  have a_r17_1 := E_20.1 _ _ a_r17_1
  have a_r0_15 := E_20.1 _ _ a_r0_15
  have tq_23 : wcP ws_19 h0 (-(103 * c5_1.toInt)) wb wc := wcP_0 hDW hG Fr_21 (by decide) (by decide) (by decide) (by decide) hkW rfl rfl (gP_of hD hk_15 (fun c9 e9 => by cases e9; have z9 : (0 : Int32).toInt = 0 := rfl; omega)) tq_14
  refine lv_aload_n hx hb dX11_begin_13 rfl (lv_at hl 0 rfl) ?_
  refine va_get (D := gD g) (ci := 10) (v := .ref r1_1) (C := RX11) (T := TX11) (N := 18) hx hb hts inX11 hown hK hP k_1 hk_1 rfl 1 (by decide) (hts _ kw_94) (fun _ h9 => h9) rfl dX11_begin_14 ?_
  refine lv_iconst (v := 0) hx hb dX11_begin_17 (by decide) ?_
  have hkW := hk_1
  have hDW := hD
  obtain ⟨k_24, fs9, hk_24⟩ := gC_of o_r1_1
  refine opn_X0 hG hk_24 (fun r0_24 n0_24 c1_24 hf9 a_r0_24 f1_24 f2_24 f3_24 f4_24 f5_24 => ?_)
  subst hf9
  have hV9 : okv ws_19 0 1 (.int 0) := okv_i
  refine va_put (D := gD g) (ci := 0) (v := .int 0) (ty := .int) (C := RX0) (T := TX0) (N := 2) hx hb hts inX0 tyX0 tyX0_ok nmX0 hown hK hP hD hS k_24 hk_24 rfl 1 (by decide) (hts _ kw_101) (fun _ h9 => h9) rfl (by decide +kernel) rfl rfl (Nat.le_of_ble_eq_true rfl) dX11_begin_18 (fun H locs hP hD hS => ?_)
  have f_25 : 0 ≤ (0 : Int32).toInt := (by have e0 : (0 : Int32).toInt = 0 := (by decide); have q_f_16 := Hide.out f_16; omega)
  replace f_25 := hide f_25
  have f_26 : (0 : Int32).toInt ≤ n0_24 := (by first | (have e0 : (0 : Int32).toInt = 0 := (by decide); have q_f_16 := Hide.out f_16; have q_f1_24 := Hide.out f1_24; have q_f3_24 := Hide.out f3_24; have q_f4_24 := Hide.out f4_24; have q_f5_24 := Hide.out f5_24; have q_f_25 := Hide.out f_25; have g_c1_24 := i_rg c1_24; omega) | (have e0 : (0 : Int32).toInt = 0 := (by decide); have q_f_16 := Hide.out f_16; have q_f1_24 := Hide.out f1_24; have q_f3_24 := Hide.out f3_24; have q_f4_24 := Hide.out f4_24; have q_f5_24 := Hide.out f5_24; have q_f_25 := Hide.out f_25; have q_f2_24 := Hide.out f2_24; have g_c1_24 := i_rg c1_24; omega))
  replace f_26 := hide f_26
  have hi_27 : invX0 g ws_19 r1_1 [.ref r0_24, .int 0] := ⟨r0_24, (n0_24), (0), rfl, a_r0_24, f1_24, f_25, f_26, f4_24, f5_24, trivial⟩
  obtain ⟨ws_28, e_ws_28⟩ : ∃ z, z = ws_19.set k_24 (r1_1, .inr (0, [.ref r0_24, .int 0])) := ⟨_, rfl⟩
  have hP : va_P (gD g) cl0 ws_28 H := by rw [e_ws_28]; exact hP
  have hD : va_D A ws_28 := by rw [e_ws_28]; exact hD
  have E_29 : gE ws_19 ws_28 := gE_set e_ws_28 hk_24 (cw_o (fi := 1) (v := .int 0) rfl (by decide))
  have hG : Good g ws_28 := Good_set (fi := 1) (v := .int 0) e_ws_28 hk_24 E_29 rfl hV9 hG (ivX0 hi_27)
  have Fr_30 : gF [(0, 1)] [] (some r1_1) ws_19 ws_28 := gF_put (fi := 1) (v := .int 0) e_ws_28 hk_24 rfl (by decide)
  have pp_31 := Fr_30.pp
  have hkN := gset_self e_ws_28 hk_24
  have hk_1 := gset_ob e_ws_28 hk_24 hk_1 (by decide)
  have aa_32 := a_r0_15
  have hk_24 := hkN
  have o_h0 := E_29.1 _ _ o_h0
  have o_b1 := E_29.1 _ _ o_b1
  have o_r0_1 := E_29.1 _ _ o_r0_1
  have o_r1_1 := E_29.1 _ _ o_r1_1
  have o_r2_1 := E_29.1 _ _ o_r2_1
  have a_r3_1 := E_29.1 _ _ a_r3_1
  have a_r4_1 := E_29.1 _ _ a_r4_1
  have a_r10_1 := E_29.1 _ _ a_r10_1
  have a_r11_1 := E_29.1 _ _ a_r11_1
  have a_r12_1 := E_29.1 _ _ a_r12_1
  have a_r13_1 := E_29.1 _ _ a_r13_1
  have o_r14_1 := E_29.1 _ _ o_r14_1
  have o_v15_1 : ∀ b, v15_1 = some b → gC ws_28 b 7 := fun b h => E_29.1 _ _ (o_v15_1 b h)
  have a_r16_1 := E_29.1 _ _ a_r16_1
  have a_r17_1 := E_29.1 _ _ a_r17_1
  have a_r0_24 := E_29.1 _ _ a_r0_24
  have tq_33 : wcP ws_28 h0 (-(103 * c5_1.toInt)) 0 wc := wcP_1 hDW hG Fr_30 (by decide) (by decide) (by decide) (by decide) hkW rfl (gP_of hD hk_24 (fun c9 e9 => by cases e9; decide)) tq_23
  refine lv_aload_n hx hb dX11_begin_21 rfl (lv_at hl 0 rfl) ?_
  refine lv_iconst (v := 1) hx hb dX11_begin_22 (by decide) ?_
  have hkW := hk_1
  have hDW := hD
  have hV9 : okv ws_28 10 5 (.int 1) := okv_i
  refine va_put (D := gD g) (ci := 10) (v := .int 1) (ty := .int) (C := RX11) (T := TX11) (N := 18) hx hb hts inX11 tyX11 tyX11_ok nmX11 hown hK hP hD hS k_1 hk_1 rfl 5 (by decide) (hts _ kw_114) (fun _ h9 => h9) rfl (by decide +kernel) rfl rfl (Nat.le_of_ble_eq_true rfl) dX11_begin_23 (fun H locs hP hD hS => ?_)
  have hi_34 : invX11 g ws_28 h0 [.ref r0_1, .ref r1_1, .ref r2_1, .ref r3_1, .ref r4_1, .int 1, .int c6_1, .ref b1, .int c8_1, .int c9_1, .ref r10_1, .ref r11_1, .ref r12_1, .ref r13_1, .ref r14_1, va_rf v15_1, .ref r16_1, .ref r17_1] := ⟨r0_1, r1_1, r2_1, r3_1, (n3_1), r4_1, (n4_1), (1), (c6_1), (some b1), (c8_1), (c9_1), r10_1, (n10_1), r11_1, (n11_1), r12_1, (n12_1), r13_1, (n13_1), r14_1, v15_1, r16_1, (n16_1), r17_1, (n17_1), rfl, o_r0_1, o_r1_1, o_r2_1, a_r3_1, f4_1, a_r4_1, f6_1, hz_c6_1, (fun b h9 => by cases h9; exact o_b1), a_r10_1, f10_1, a_r11_1, f12_1, a_r12_1, f14_1, a_r13_1, f16_1, o_r14_1, o_v15_1, a_r16_1, f20_1, a_r17_1, f22_1, f23_1, f24_1, f25_1, f26_1, f27_1, f28_1, trivial⟩
  obtain ⟨ws_35, e_ws_35⟩ : ∃ z, z = ws_28.set k_1 (h0, .inr (10, [.ref r0_1, .ref r1_1, .ref r2_1, .ref r3_1, .ref r4_1, .int 1, .int c6_1, .ref b1, .int c8_1, .int c9_1, .ref r10_1, .ref r11_1, .ref r12_1, .ref r13_1, .ref r14_1, va_rf v15_1, .ref r16_1, .ref r17_1])) := ⟨_, rfl⟩
  have hP : va_P (gD g) cl0 ws_35 H := by rw [e_ws_35]; exact hP
  have hD : va_D A ws_35 := by rw [e_ws_35]; exact hD
  have E_36 : gE ws_28 ws_35 := gE_set e_ws_35 hk_1 (cw_o (fi := 5) (v := .int 1) rfl (by decide))
  have hG : Good g ws_35 := Good_set (fi := 5) (v := .int 1) e_ws_35 hk_1 E_36 rfl hV9 hG (ivX11 hi_34)
  have Fr_37 : gF [(10, 5)] [] (some h0) ws_28 ws_35 := gF_put (fi := 5) (v := .int 1) e_ws_35 hk_1 rfl (by decide)
  have pp_38 := Fr_37.pp
  have hkN := gset_self e_ws_35 hk_1
  have hk_24 := gset_ob e_ws_35 hk_1 hk_24 (by decide)
  have hk_1 := hkN
  have o_h0 := E_36.1 _ _ o_h0
  have o_b1 := E_36.1 _ _ o_b1
  have o_r0_1 := E_36.1 _ _ o_r0_1
  have o_r1_1 := E_36.1 _ _ o_r1_1
  have o_r2_1 := E_36.1 _ _ o_r2_1
  have a_r3_1 := E_36.1 _ _ a_r3_1
  have a_r4_1 := E_36.1 _ _ a_r4_1
  have a_r10_1 := E_36.1 _ _ a_r10_1
  have a_r11_1 := E_36.1 _ _ a_r11_1
  have a_r12_1 := E_36.1 _ _ a_r12_1
  have a_r13_1 := E_36.1 _ _ a_r13_1
  have o_r14_1 := E_36.1 _ _ o_r14_1
  have o_v15_1 : ∀ b, v15_1 = some b → gC ws_35 b 7 := fun b h => E_36.1 _ _ (o_v15_1 b h)
  have a_r16_1 := E_36.1 _ _ a_r16_1
  have a_r17_1 := E_36.1 _ _ a_r17_1
  have a_r0_24 := E_36.1 _ _ a_r0_24
  have tq_39 : wcP ws_35 h0 0 0 wc := wcP_pp e_ws_35 hDW hkW rfl (p := c5_1) rfl (by have z9 : (1 : Int32).toInt = 1 := rfl; omega) tq_33
  have tq_40 : enW g ws_35 h0 := enW_mo ((gF.tr (gF.mo (F' := [(0, 1), (10, 5), (10, 7)]) (C' := []) (S' := none) Fr_5 (by decide) (fun _ h => h) (Or.inl rfl)) (gF.tr (gF.mo (F' := [(0, 1), (10, 5), (10, 7)]) (C' := []) (S' := none) Fr_21 (by decide) (fun _ h => h) (Or.inl rfl)) (gF.tr (gF.mo (F' := [(0, 1), (10, 5), (10, 7)]) (C' := []) (S' := none) Fr_30 (by decide) (fun _ h => h) (Or.inl rfl)) (gF.mo (F' := [(0, 1), (10, 5), (10, 7)]) (C' := []) (S' := none) Fr_37 (by decide) (fun _ h => h) (Or.inl rfl)))))) (by decide) (by decide) tk1
  have tq_41 : enP g ws_35 h0 := enP_W hD hk_1 rfl (by decide) tq_40
  refine lv_aload_n hx hb dX11_begin_26 rfl (lv_at hl 0 rfl) ?_
  refine lv_iconst (v := 0) hx hb dX11_begin_27 (by decide) ?_
  have hV9 : okv ws_35 10 6 (.int 0) := okv_i
  refine va_put (D := gD g) (ci := 10) (v := .int 0) (ty := .boolean) (C := RX11) (T := TX11) (N := 18) hx hb hts inX11 tyX11 tyX11_ok nmX11 hown hK hP hD hS k_1 hk_1 rfl 6 (by decide) (hts _ kw_115) (fun _ h9 => h9) rfl (by decide +kernel) rfl rfl (Nat.le_of_ble_eq_true rfl) dX11_begin_28 (fun H locs hP hD hS => ?_)
  have hi_42 : invX11 g ws_35 h0 [.ref r0_1, .ref r1_1, .ref r2_1, .ref r3_1, .ref r4_1, .int 1, .int 0, .ref b1, .int c8_1, .int c9_1, .ref r10_1, .ref r11_1, .ref r12_1, .ref r13_1, .ref r14_1, va_rf v15_1, .ref r16_1, .ref r17_1] := ⟨r0_1, r1_1, r2_1, r3_1, (n3_1), r4_1, (n4_1), (1), (0), (some b1), (c8_1), (c9_1), r10_1, (n10_1), r11_1, (n11_1), r12_1, (n12_1), r13_1, (n13_1), r14_1, v15_1, r16_1, (n16_1), r17_1, (n17_1), rfl, o_r0_1, o_r1_1, o_r2_1, a_r3_1, f4_1, a_r4_1, f6_1, (Or.inl rfl), (fun b h9 => by cases h9; exact o_b1), a_r10_1, f10_1, a_r11_1, f12_1, a_r12_1, f14_1, a_r13_1, f16_1, o_r14_1, o_v15_1, a_r16_1, f20_1, a_r17_1, f22_1, f23_1, f24_1, f25_1, f26_1, f27_1, f28_1, trivial⟩
  obtain ⟨ws_43, e_ws_43⟩ : ∃ z, z = ws_35.set k_1 (h0, .inr (10, [.ref r0_1, .ref r1_1, .ref r2_1, .ref r3_1, .ref r4_1, .int 1, .int 0, .ref b1, .int c8_1, .int c9_1, .ref r10_1, .ref r11_1, .ref r12_1, .ref r13_1, .ref r14_1, va_rf v15_1, .ref r16_1, .ref r17_1])) := ⟨_, rfl⟩
  have hP : va_P (gD g) cl0 ws_43 H := by rw [e_ws_43]; exact hP
  have hD : va_D A ws_43 := by rw [e_ws_43]; exact hD
  have E_44 : gE ws_35 ws_43 := gE_set e_ws_43 hk_1 (cw_o (fi := 6) (v := .int 0) rfl (by decide))
  have hG : Good g ws_43 := Good_set (fi := 6) (v := .int 0) e_ws_43 hk_1 E_44 rfl hV9 hG (ivX11 hi_42)
  have Fr_45 : gF [(10, 6)] [] (some h0) ws_35 ws_43 := gF_put (fi := 6) (v := .int 0) e_ws_43 hk_1 rfl (by decide)
  have pp_46 := Fr_45.pp
  have hkN := gset_self e_ws_43 hk_1
  have hk_24 := gset_ob e_ws_43 hk_1 hk_24 (by decide)
  have hk_1 := hkN
  have o_h0 := E_44.1 _ _ o_h0
  have o_b1 := E_44.1 _ _ o_b1
  have o_r0_1 := E_44.1 _ _ o_r0_1
  have o_r1_1 := E_44.1 _ _ o_r1_1
  have o_r2_1 := E_44.1 _ _ o_r2_1
  have a_r3_1 := E_44.1 _ _ a_r3_1
  have a_r4_1 := E_44.1 _ _ a_r4_1
  have a_r10_1 := E_44.1 _ _ a_r10_1
  have a_r11_1 := E_44.1 _ _ a_r11_1
  have a_r12_1 := E_44.1 _ _ a_r12_1
  have a_r13_1 := E_44.1 _ _ a_r13_1
  have o_r14_1 := E_44.1 _ _ o_r14_1
  have o_v15_1 : ∀ b, v15_1 = some b → gC ws_43 b 7 := fun b h => E_44.1 _ _ (o_v15_1 b h)
  have a_r16_1 := E_44.1 _ _ a_r16_1
  have a_r17_1 := E_44.1 _ _ a_r17_1
  have a_r0_24 := E_44.1 _ _ a_r0_24
  refine lv_aload_n hx hb dX11_begin_31 rfl (lv_at hl 0 rfl) ?_
  refine va_get (D := gD g) (ci := 10) (v := .ref r12_1) (C := RX11) (T := TX11) (N := 18) hx hb hts inX11 hown hK hP k_1 hk_1 rfl 12 (by decide) (hts _ kw_116) (fun _ h9 => h9) rfl dX11_begin_32 ?_
  refine lv_iconst (v := 0) hx hb dX11_begin_35 (by decide) ?_
  have hFc := gfree hD hS hA
  refine va_callv (va_runS (As := [.ref r12_1, .int 0]) (rest := []) ⟨hx, hb, hml, hown, hts⟩ (m_J7_fill_53178_x l g H.size ws_43 r12_1 (n12_1) (0) [(10, 12)] hG a_r12_1 f14_1 (hol_u hG.u hk_1 (j := 12) rfl a_r12_1 (by decide))) (va_cwS 2 hts (gd_S kw_117 kw_1722 kw_1723 kw_1721) rfl rfl rfl (by decide +kernel) ⟨Nat.le_of_ble_eq_true rfl, Nat.le_of_ble_eq_true rfl⟩) ⟨gblind, fun U hU hW9 => gmk hU hW9 hP hK hD hex hE hS hFc⟩ rfl rfl hl.1 rfl (lv_room (Nat.le_of_ble_eq_true rfl)) dX11_begin_36 ⟨(show 0 + 0 ≤ PC ws + (0) from (by have e0 : (0 : Int32).toInt = 0 := (by decide); have q_f_16 := Hide.out f_16; have q_f_25 := Hide.out f_25; omega)), (show 0 + 0 ≤ PS ws + (0) from (by have e0 : (0 : Int32).toInt = 0 := (by decide); have q_f_16 := Hide.out f_16; have q_f_25 := Hide.out f_25; omega))⟩) hS (fun q _ h => hFc q h) hFc (fun  ws_47 t9 H1 locs ht9 hvm9 hw9 hB9 hz9 hk9 hS => ?_)
  obtain ⟨E_48, Fr_49, hG, hP1, hD1⟩ := hB9
  have hP : va_P (gD g) cl0 ws_47 H1 := by rw [← ht9]; exact hP1
  have hD : va_D A ws_47 := hD1.weaken (fun _ _ _ h => hFc _ h)
  obtain ⟨hw9, xp_52⟩ := hw9
  clear hP1 hD1 hz9 hk9 hvm9 ht9 hw9
  generalize H1 = H at hP hS ⊢
  have aa_53 := a_r3_1
  have aa_54 := a_r4_1
  have aa_55 := a_r10_1
  have aa_56 := a_r11_1
  have aa_57 := a_r12_1
  have aa_58 := a_r13_1
  have aa_59 := a_r16_1
  have aa_60 := a_r17_1
  have aa_61 := a_r0_24
  have o_h0 := E_48.1 _ _ o_h0
  have o_b1 := E_48.1 _ _ o_b1
  have pp_62 := Fr_49.pp
  refine lv_aload_n hx hb dX11_begin_39 rfl (lv_at hl 0 rfl) ?_
  obtain ⟨fs9, hk_63, hq_63⟩ := ((gF.a (F' := []) Fr_49 (fun _ h => h))) _ _ _ hk_1
  refine opn_X11 hG hk_63 (fun r0_63 r1_63 r2_63 r3_63 n3_63 r4_63 n4_63 c5_63 c6_63 v7_63 c8_63 c9_63 r10_63 n10_63 r11_63 n11_63 r12_63 n12_63 r13_63 n13_63 r14_63 v15_63 r16_63 n16_63 r17_63 n17_63 hf9 o_r0_63 o_r1_63 o_r2_63 a_r3_63 f4_63 a_r4_63 f6_63 hz_c6_63 o_v7_63 a_r10_63 f10_63 a_r11_63 f12_63 a_r12_63 f14_63 a_r13_63 f16_63 o_r14_63 o_v15_63 a_r16_63 f20_63 a_r17_63 f22_63 f23_63 f24_63 f25_63 f26_63 f27_63 f28_63 => ?_)
  subst hf9
  obtain rfl := fe_r (hq_63 0 (by decide))
  have o_r0_1 := o_r0_63
  obtain rfl := fe_r (hq_63 1 (by decide))
  have o_r1_1 := o_r1_63
  have hn9 := fe_qr (hq_63 7 (by decide))
  subst hn9
  have o_b1 := o_v7_63 _ rfl
  obtain rfl := fe_i (hq_63 9 (by decide))
  obtain rfl := fe_r (hq_63 10 (by decide))
  have hn9 := gI_n hD ((E_48).1 _ _ aa_55) a_r10_63
  subst hn9
  have a_r10_1 := a_r10_63
  obtain rfl := fe_r (hq_63 11 (by decide))
  have hn9 := gI_n hD ((E_48).1 _ _ aa_56) a_r11_63
  subst hn9
  have a_r11_1 := a_r11_63
  obtain rfl := fe_r (hq_63 12 (by decide))
  have hn9 := gI_n hD ((E_48).1 _ _ aa_57) a_r12_63
  subst hn9
  have a_r12_1 := a_r12_63
  obtain rfl := fe_r (hq_63 13 (by decide))
  have hn9 := gI_n hD ((E_48).1 _ _ aa_58) a_r13_63
  subst hn9
  have a_r13_1 := a_r13_63
  obtain rfl := fe_q (hq_63 15 (by decide))
  have o_v15_1 := o_v15_63
  refine va_get (D := gD g) (ci := 10) (v := .ref r13_1) (C := RX11) (T := TX11) (N := 18) hx hb hts inX11 hown hK hP k_1 hk_63 rfl 13 (by decide) (hts _ kw_118) (fun _ h9 => h9) rfl dX11_begin_40 ?_
  refine lv_iconst (v := 0) hx hb dX11_begin_43 (by decide) ?_
  have hFc := gfree hD hS hA
  refine va_callv (va_runS (As := [.ref r13_1, .int 0]) (rest := []) ⟨hx, hb, hml, hown, hts⟩ (m_J7_fill_53178_x l g H.size ws_47 r13_1 (n13_1) (0) [(10, 13)] hG a_r13_1 f16_63 (hol_u hG.u hk_63 (j := 13) rfl a_r13_1 (by decide))) (va_cwS 2 hts (gd_S kw_117 kw_1722 kw_1723 kw_1721) rfl rfl rfl (by decide +kernel) ⟨Nat.le_of_ble_eq_true rfl, Nat.le_of_ble_eq_true rfl⟩) ⟨gblind, fun U hU hW9 => gmk hU hW9 hP hK hD hex hE hS hFc⟩ rfl rfl hl.1 rfl (lv_room (Nat.le_of_ble_eq_true rfl)) dX11_begin_44 ⟨(show 0 + 0 ≤ PC ws + (0) from (by have e0 : (0 : Int32).toInt = 0 := (by decide); have q_f_16 := Hide.out f_16; have q_f_25 := Hide.out f_25; omega)), (show 0 + 0 ≤ PS ws + (0) from (by have e0 : (0 : Int32).toInt = 0 := (by decide); have q_f_16 := Hide.out f_16; have q_f_25 := Hide.out f_25; omega))⟩) hS (fun q _ h => hFc q h) hFc (fun  ws_64 t9 H1 locs ht9 hvm9 hw9 hB9 hz9 hk9 hS => ?_)
  obtain ⟨E_65, Fr_66, hG, hP1, hD1⟩ := hB9
  have hP : va_P (gD g) cl0 ws_64 H1 := by rw [← ht9]; exact hP1
  have hD : va_D A ws_64 := hD1.weaken (fun _ _ _ h => hFc _ h)
  obtain ⟨hw9, xp_69⟩ := hw9
  clear hP1 hD1 hz9 hk9 hvm9 ht9 hw9
  generalize H1 = H at hP hS ⊢
  have aa_70 := a_r3_63
  have aa_71 := a_r4_63
  have aa_72 := a_r10_1
  have aa_73 := a_r11_1
  have aa_74 := a_r12_1
  have aa_75 := a_r13_1
  have aa_76 := a_r16_63
  have aa_77 := a_r17_63
  have o_h0 := E_65.1 _ _ o_h0
  have o_b1 := E_65.1 _ _ o_b1
  have pp_78 := Fr_66.pp
  refine lv_aload_n hx hb dX11_begin_47 rfl (lv_at hl 0 rfl) ?_
  refine lv_aload_n hx hb dX11_begin_48 rfl (lv_at hl 0 rfl) ?_
  obtain ⟨q_79, eq_79⟩ : ∃ z, z = g.aK 0 := ⟨_, rfl⟩
  obtain ⟨n_80, en_80⟩ : ∃ z, z = sL.getD 0 0 := ⟨_, rfl⟩
  have t_q_79 : gT g q_79 n_80 := ⟨0, by decide, eq_79, en_80⟩
  refine va_ldcS (tx := "Code") (q := q_79) hx hb hown (by rw [eq_79]; exact hE.2.2.2.2.2.2.2.2.1) dX11_begin_49 ?_
  have tq_81 : enP g ws_64 h0 := enP_mo ((gF.tr (gF.mo (F' := [(10, 6)]) (C' := [(10, 12), (10, 13)]) (S' := none) Fr_45 (fun _ h => h) (fun _ h => absurd h List.not_mem_nil) (Or.inl rfl)) (gF.tr (gF.mo (F' := [(10, 6)]) (C' := [(10, 12), (10, 13)]) (S' := none) Fr_49 (fun _ h => absurd h List.not_mem_nil) (by decide) (Or.inr rfl)) (gF.mo (F' := [(10, 6)]) (C' := [(10, 12), (10, 13)]) (S' := none) Fr_66 (fun _ h => absurd h List.not_mem_nil) (by decide) (Or.inr rfl))))) (by decide) (by decide) (by decide) tq_41
  have tq_82 : wcP ws_64 h0 0 0 wc := wcP_mo ((gF.tr (gF.mo (F' := [(10, 6)]) (C' := [(10, 12), (10, 13)]) (S' := none) Fr_45 (fun _ h => h) (fun _ h => absurd h List.not_mem_nil) (Or.inl rfl)) (gF.tr (gF.mo (F' := [(10, 6)]) (C' := [(10, 12), (10, 13)]) (S' := none) Fr_49 (fun _ h => absurd h List.not_mem_nil) (by decide) (Or.inr rfl)) (gF.mo (F' := [(10, 6)]) (C' := [(10, 12), (10, 13)]) (S' := none) Fr_66 (fun _ h => absurd h List.not_mem_nil) (by decide) (Or.inr rfl))))) (by decide) (by decide) (by decide) (by decide) (by decide) tq_39
  have hFc := gfree hD hS hA
  refine W_led (fun hL0 => ?_)
  obtain ⟨k_83, fs_83, hk_83⟩ := gC_of o_h0
  refine va_calli (va_runV (As := [.ref q_79]) (rest := [.ref h0]) ⟨hx, hb, hml, hown, hts⟩ (m_X11_textEntry l g H ws_64 h0 q_79 (n_80) 0 wc hG o_h0 t_q_79 tq_81 tq_82 (by have e0 : (0 : Int32).toInt = 0 := (by decide); have q_pwb := Hide.out pwb; have q_pwc := Hide.out pwc; have q_f_16 := Hide.out f_16; have q_f_25 := Hide.out f_25; omega)) (cwV 1 hts (gd_V kw_119 kw_266 kw_267 kw_83 kw_265) rfl rfl rfl (by decide +kernel) ⟨Nat.le_of_ble_eq_true rfl, Nat.le_of_ble_eq_true rfl⟩) ⟨gblindH, va_recv hK hP (ci := 10) (q0 := k_83) rfl hk_83, fun U hU hW9 => gmkH hU hW9 hP hK hD hex hE hS hFc⟩ rfl rfl hl.1 rfl (lv_room (Nat.le_of_ble_eq_true rfl)) dX11_begin_51 ⟨(show 0 + (PC ws_64 + (0)) ≤ PC ws + (0) from (by have e0 : (0 : Int32).toInt = 0 := (by decide); have q_f_16 := Hide.out f_16; have q_f_25 := Hide.out f_25; omega)), (show 0 + (PS ws_64 + (0)) ≤ PS ws + (0) from (by have e0 : (0 : Int32).toInt = 0 := (by decide); have q_f_16 := Hide.out f_16; have q_f_25 := Hide.out f_25; omega))⟩) hS (fun q _ h => hFc q h) hFc (fun r_84 ws_85 t9 H1 locs ht9 hvm9 hw9 hB9 hz9 hk9 hS => ?_)
  obtain ⟨E_86, Fr_87, hG, hP1, hD1, dc_88, ds_89, hLd, hdc_88, hds_89⟩ := hB9
  rw [ht9] at hLd
  refine W_tight (hL0.tr hLd).1 (hL0.tr hLd).2.1 ?_
  clear hL0 hLd
  have hP : va_P (gD g) cl0 ws_85 H1 := by rw [← ht9]; exact hP1
  have hD : va_D A ws_85 := hD1.weaken (fun _ _ _ h => hFc _ h)
  obtain ⟨hw9, xp_90, xp_91⟩ := hw9
  clear hP1 hD1 hz9 hk9 hvm9 ht9 hw9
  generalize H1 = H at hP hS ⊢
  have o_h0 := E_86.1 _ _ o_h0
  have o_b1 := E_86.1 _ _ o_b1
  obtain ⟨fs9, hk_92, hq_92⟩ := ((gA.tr (gF.a (F' := [(0, 0), (0, 1), (10, 5), (10, 6)]) Fr_66 (fun _ h => absurd h List.not_mem_nil)) (gF.a (F' := [(0, 0), (0, 1), (10, 5), (10, 6)]) Fr_87 (fun _ h => h)))) _ _ _ hk_63
  refine opn_X11 hG hk_92 (fun r0_92 r1_92 r2_92 r3_92 n3_92 r4_92 n4_92 c5_92 c6_92 v7_92 c8_92 c9_92 r10_92 n10_92 r11_92 n11_92 r12_92 n12_92 r13_92 n13_92 r14_92 v15_92 r16_92 n16_92 r17_92 n17_92 hf9 o_r0_92 o_r1_92 o_r2_92 a_r3_92 f4_92 a_r4_92 f6_92 hz_c6_92 o_v7_92 a_r10_92 f10_92 a_r11_92 f12_92 a_r12_92 f14_92 a_r13_92 f16_92 o_r14_92 o_v15_92 a_r16_92 f20_92 a_r17_92 f22_92 f23_92 f24_92 f25_92 f26_92 f27_92 f28_92 => ?_)
  subst hf9
  obtain rfl := fe_r (hq_92 0 (by decide))
  have o_r0_1 := o_r0_92
  obtain rfl := fe_r (hq_92 1 (by decide))
  have o_r1_1 := o_r1_92
  have hn9 := fe_qr (hq_92 7 (by decide))
  subst hn9
  have o_b1 := o_v7_92 _ rfl
  obtain rfl := fe_i (hq_92 9 (by decide))
  obtain rfl := fe_r (hq_92 10 (by decide))
  have hn9 := gI_n hD (((E_65.tr E_86)).1 _ _ aa_72) a_r10_92
  subst hn9
  have a_r10_1 := a_r10_92
  obtain rfl := fe_r (hq_92 11 (by decide))
  have hn9 := gI_n hD (((E_65.tr E_86)).1 _ _ aa_73) a_r11_92
  subst hn9
  have a_r11_1 := a_r11_92
  obtain rfl := fe_r (hq_92 12 (by decide))
  have hn9 := gI_n hD (((E_65.tr E_86)).1 _ _ aa_74) a_r12_92
  subst hn9
  have a_r12_1 := a_r12_92
  obtain rfl := fe_r (hq_92 13 (by decide))
  have hn9 := gI_n hD (((E_65.tr E_86)).1 _ _ aa_75) a_r13_92
  subst hn9
  have a_r13_1 := a_r13_92
  obtain rfl := fe_q (hq_92 15 (by decide))
  have o_v15_1 := o_v15_92
  have hV9 : okv ws_85 10 8 (.int r_84) := okv_i
  refine va_put (D := gD g) (ci := 10) (v := .int r_84) (ty := .int) (C := RX11) (T := TX11) (N := 18) hx hb hts inX11 tyX11 tyX11_ok nmX11 hown hK hP hD hS k_1 hk_92 rfl 8 (by decide) (hts _ kw_95) (fun _ h9 => h9) rfl (by decide +kernel) rfl rfl (Nat.le_of_ble_eq_true rfl) dX11_begin_54 (fun H locs hP hD hS => ?_)
  have hi_93 : invX11 g ws_85 h0 [.ref r0_1, .ref r1_1, .ref r2_92, .ref r3_92, .ref r4_92, .int c5_92, .int c6_92, .ref b1, .int r_84, .int c9_1, .ref r10_1, .ref r11_1, .ref r12_1, .ref r13_1, .ref r14_92, va_rf v15_1, .ref r16_92, .ref r17_92] := ⟨r0_1, r1_1, r2_92, r3_92, (n3_92), r4_92, (n4_92), (c5_92), (c6_92), (some b1), (r_84), (c9_1), r10_1, (n10_1), r11_1, (n11_1), r12_1, (n12_1), r13_1, (n13_1), r14_92, v15_1, r16_92, (n16_92), r17_92, (n17_92), rfl, o_r0_1, o_r1_1, o_r2_92, a_r3_92, f4_92, a_r4_92, f6_92, hz_c6_92, (fun b h9 => by cases h9; exact o_b1), a_r10_1, f10_92, a_r11_1, f12_92, a_r12_1, f14_92, a_r13_1, f16_92, o_r14_92, o_v15_1, a_r16_92, f20_92, a_r17_92, f22_92, f23_92, f24_92, f25_92, f26_92, f27_92, f28_92, trivial⟩
  obtain ⟨ws_94, e_ws_94⟩ : ∃ z, z = ws_85.set k_1 (h0, .inr (10, [.ref r0_1, .ref r1_1, .ref r2_92, .ref r3_92, .ref r4_92, .int c5_92, .int c6_92, .ref b1, .int r_84, .int c9_1, .ref r10_1, .ref r11_1, .ref r12_1, .ref r13_1, .ref r14_92, va_rf v15_1, .ref r16_92, .ref r17_92])) := ⟨_, rfl⟩
  have hP : va_P (gD g) cl0 ws_94 H := by rw [e_ws_94]; exact hP
  have hD : va_D A ws_94 := by rw [e_ws_94]; exact hD
  have E_95 : gE ws_85 ws_94 := gE_set e_ws_94 hk_92 (cw_o (fi := 8) (v := .int r_84) rfl (by decide))
  have hG : Good g ws_94 := Good_set (fi := 8) (v := .int r_84) e_ws_94 hk_92 E_95 rfl hV9 hG (ivX11 hi_93)
  have Fr_96 : gF [(10, 8)] [] (some h0) ws_85 ws_94 := gF_put (fi := 8) (v := .int r_84) e_ws_94 hk_92 rfl (by decide)
  have pp_97 := Fr_96.pp
  have hkN := gset_self e_ws_94 hk_92
  have hk_92 := hkN
  have o_h0 := E_95.1 _ _ o_h0
  have o_b1 := E_95.1 _ _ o_b1
  have o_r2_92 := E_95.1 _ _ o_r2_92
  have a_r3_92 := E_95.1 _ _ a_r3_92
  have a_r4_92 := E_95.1 _ _ a_r4_92
  have o_r14_92 := E_95.1 _ _ o_r14_92
  have a_r16_92 := E_95.1 _ _ a_r16_92
  have a_r17_92 := E_95.1 _ _ a_r17_92
  have o_r0_1 := E_95.1 _ _ o_r0_1
  have o_r1_1 := E_95.1 _ _ o_r1_1
  have a_r10_1 := E_95.1 _ _ a_r10_1
  have a_r11_1 := E_95.1 _ _ a_r11_1
  have a_r12_1 := E_95.1 _ _ a_r12_1
  have a_r13_1 := E_95.1 _ _ a_r13_1
  have o_v15_1 : ∀ b, v15_1 = some b → gC ws_94 b 7 := fun b h => E_95.1 _ _ (o_v15_1 b h)
  refine lv_aload_n hx hb dX11_begin_57 rfl (lv_at hl 0 rfl) ?_
  refine lv_aload_n hx hb dX11_begin_58 rfl (lv_at hl 0 rfl) ?_
  refine lv_bipush (v := 7) hx hb dX11_begin_59 (by decide) ?_
  refine lv_aload_n hx hb dX11_begin_61 rfl (lv_at hl 0 rfl) ?_
  refine lv_aload_n hx hb dX11_begin_62 rfl (lv_at hl 0 rfl) ?_
  refine va_get (D := gD g) (ci := 10) (v := .ref b1) (C := RX11) (T := TX11) (N := 18) hx hb hts inX11 hown hK hP k_1 hk_92 rfl 7 (by decide) (hts _ kw_86) (fun _ h9 => h9) rfl dX11_begin_63 ?_
  obtain ⟨k_98, fs9, hk_98⟩ := gC_of o_b1
  refine opn_X10 hG hk_98 (fun r0_98 n0_98 c1_98 c2_98 c3_98 c4_98 r5_98 n5_98 r6_98 n6_98 r7_98 n7_98 c8_98 r9_98 n9_98 r10_98 n10_98 r11_98 n11_98 r12_98 n12_98 r13_98 n13_98 c14_98 c15_98 c16_98 c17_98 hf9 a_r0_98 f1_98 a_r5_98 f3_98 a_r6_98 f5_98 a_r7_98 f7_98 a_r9_98 f9_98 a_r10_98 f11_98 a_r11_98 f13_98 a_r12_98 f15_98 a_r13_98 f17_98 hz_c15_98 f19_98 f20_98 f21_98 f22_98 f23_98 f24_98 f25_98 f26_98 f27_98 f28_98 => ?_)
  subst hf9
  refine va_get (D := gD g) (ci := 9) (v := .int c2_98) (C := RX10) (T := TX10) (N := 18) hx hb hts inX10 hown hK hP k_98 hk_98 rfl 2 (by decide) (hts _ kw_120) (fun _ h9 => h9) rfl dX11_begin_66 ?_
  have tq_99 : nlI2 ws_94 h0 := nlI2_mo ((gF.tr (gF.mo (F' := [(0, 0), (0, 1), (10, 5), (10, 6), (10, 8)]) (C' := [(0, 0), (6, 0), (10, 3), (10, 4), (10, 12), (10, 13)]) (S' := none) Fr_21 (by decide) (fun _ h => absurd h List.not_mem_nil) (Or.inl rfl)) (gF.tr (gF.mo (F' := [(0, 0), (0, 1), (10, 5), (10, 6), (10, 8)]) (C' := [(0, 0), (6, 0), (10, 3), (10, 4), (10, 12), (10, 13)]) (S' := none) Fr_30 (by decide) (fun _ h => absurd h List.not_mem_nil) (Or.inl rfl)) (gF.tr (gF.mo (F' := [(0, 0), (0, 1), (10, 5), (10, 6), (10, 8)]) (C' := [(0, 0), (6, 0), (10, 3), (10, 4), (10, 12), (10, 13)]) (S' := none) Fr_37 (by decide) (fun _ h => absurd h List.not_mem_nil) (Or.inl rfl)) (gF.tr (gF.mo (F' := [(0, 0), (0, 1), (10, 5), (10, 6), (10, 8)]) (C' := [(0, 0), (6, 0), (10, 3), (10, 4), (10, 12), (10, 13)]) (S' := none) Fr_45 (by decide) (fun _ h => absurd h List.not_mem_nil) (Or.inl rfl)) (gF.tr (gF.mo (F' := [(0, 0), (0, 1), (10, 5), (10, 6), (10, 8)]) (C' := [(0, 0), (6, 0), (10, 3), (10, 4), (10, 12), (10, 13)]) (S' := none) Fr_49 (fun _ h => absurd h List.not_mem_nil) (by decide) (Or.inr rfl)) (gF.tr (gF.mo (F' := [(0, 0), (0, 1), (10, 5), (10, 6), (10, 8)]) (C' := [(0, 0), (6, 0), (10, 3), (10, 4), (10, 12), (10, 13)]) (S' := none) Fr_66 (fun _ h => absurd h List.not_mem_nil) (by decide) (Or.inr rfl)) (gF.tr (gF.mo (F' := [(0, 0), (0, 1), (10, 5), (10, 6), (10, 8)]) (C' := [(0, 0), (6, 0), (10, 3), (10, 4), (10, 12), (10, 13)]) (S' := none) Fr_87 (by decide) (by decide) (Or.inr rfl)) (gF.mo (F' := [(0, 0), (0, 1), (10, 5), (10, 6), (10, 8)]) (C' := [(0, 0), (6, 0), (10, 3), (10, 4), (10, 12), (10, 13)]) (S' := none) Fr_96 (by decide) (fun _ h => absurd h List.not_mem_nil) (Or.inl rfl)))))))))) (by decide) (by decide) (by decide) (by decide) tq_12
  have tq_100 : nlP ws_94 h0 c2_98 := nlI_at hD hk_92 rfl hk_98 rfl tq_99
  have tq_101 : enP g ws_94 h0 := enP_mo ((gF.mo (F' := [(10, 8)]) (C' := []) (S' := none) Fr_96 (fun _ h => h) (fun _ h => h) (Or.inl rfl))) (by decide) (by decide) (by decide) xp_90
  have tq_102 : wcP ws_94 h0 0 (0) (14) := wcP_mo ((gF.mo (F' := [(10, 8)]) (C' := []) (S' := none) Fr_96 (fun _ h => h) (fun _ h => h) (Or.inl rfl))) (by decide) (by decide) (by decide) (by decide) (by decide) xp_91
  have hFc := gfree hD hS hA
  have pg_103 := ge_10_17 hD hk_92 rfl a_r17_92
  refine W_led (fun hL0 => ?_)
  refine va_calli (va_runV (As := [.int c2_98]) (rest := [.int 7, .ref h0, .ref h0]) ⟨hx, hb, hml, hown, hts⟩ (m_X11_nameEntry l g H ws_94 h0 (c2_98) (0) (14) hG o_h0 (gN_of hD hk_92 (j := 7) rfl) tq_101 tq_100 tq_102 (by have e0 : (0 : Int32).toInt = 0 := (by decide); have e14 : (14 : Int32).toInt = 14 := (by decide); have q_f_16 := Hide.out f_16; have q_f_25 := Hide.out f_25; omega)) (cwV 1 hts (gd_V kw_88 kw_217 kw_218 kw_83 kw_216) rfl rfl rfl (by decide +kernel) ⟨Nat.le_of_ble_eq_true rfl, Nat.le_of_ble_eq_true rfl⟩) ⟨gblindH, va_recv hK hP (ci := 10) (q0 := k_1) rfl hk_92, fun U hU hW9 => gmkH hU hW9 hP hK hD hex hE hS hFc⟩ rfl rfl hl.1 rfl (lv_room (Nat.le_of_ble_eq_true rfl)) dX11_begin_69 ⟨(show 0 + dc_88 + (PC ws_94 + (0)) ≤ PC ws + (0) from (by have e0 : (0 : Int32).toInt = 0 := (by decide); have q_f_16 := Hide.out f_16; have q_f_25 := Hide.out f_25; omega)), (show 0 + ds_89 + (PS ws_94 + (0)) ≤ PS ws + (0) from (by have e0 : (0 : Int32).toInt = 0 := (by decide); have q_f_16 := Hide.out f_16; have q_f_25 := Hide.out f_25; omega))⟩) hS (fun q _ h => hFc q h) hFc (fun r_104 ws_105 t9 H1 locs ht9 hvm9 hw9 hB9 hz9 hk9 hS => ?_)
  obtain ⟨E_106, Fr_107, hG, hP1, hD1, dc_108, ds_109, hLd, hdc_108, hds_109⟩ := hB9
  rw [ht9] at hLd
  refine W_tight (hL0.tr hLd).1 (hL0.tr hLd).2.1 ?_
  clear hL0 hLd
  have hP : va_P (gD g) cl0 ws_105 H1 := by rw [← ht9]; exact hP1
  have hD : va_D A ws_105 := hD1.weaken (fun _ _ _ h => hFc _ h)
  obtain ⟨hw9, xp_110, xp_111⟩ := hw9
  clear hP1 hD1 hz9 hk9 hvm9 ht9 hw9
  generalize H1 = H at hP hS ⊢
  have aa_112 := a_r3_92
  have aa_113 := a_r4_92
  have aa_114 := a_r10_1
  have aa_115 := a_r11_1
  have aa_116 := a_r12_1
  have aa_117 := a_r13_1
  have aa_118 := a_r16_92
  have aa_119 := a_r17_92
  have aa_120 := a_r0_98
  have aa_121 := a_r5_98
  have aa_122 := a_r6_98
  have aa_123 := a_r7_98
  have aa_124 := a_r9_98
  have aa_125 := a_r10_98
  have aa_126 := a_r11_98
  have aa_127 := a_r12_98
  have aa_128 := a_r13_98
  have o_h0 := E_106.1 _ _ o_h0
  have o_b1 := E_106.1 _ _ o_b1
  have hFc := gfree hD hS hA
  refine W_led (fun hL0 => ?_)
  obtain ⟨k_129, fs_129, hk_129⟩ := gC_of o_h0
  refine va_calli (va_runV (As := [.int 7, .int r_104]) (rest := [.ref h0]) ⟨hx, hb, hml, hown, hts⟩ (m_X11_pointerEntry l g H ws_105 h0 (7) (r_104) ((0)) (103) hG o_h0 xp_110 xp_111 (by have e0 : (0 : Int32).toInt = 0 := (by decide); have e103 : (103 : Int32).toInt = 103 := (by decide); have q_f_16 := Hide.out f_16; have q_f_25 := Hide.out f_25; omega)) (cwV 2 hts (gd_V kw_121 kw_231 kw_232 kw_83 kw_230) rfl rfl rfl (by decide +kernel) ⟨Nat.le_of_ble_eq_true rfl, Nat.le_of_ble_eq_true rfl⟩) ⟨gblindH, va_recv hK hP (ci := 10) (q0 := k_129) rfl hk_129, fun U hU hW9 => gmkH hU hW9 hP hK hD hex hE hS hFc⟩ rfl rfl hl.1 rfl (lv_room (Nat.le_of_ble_eq_true rfl)) dX11_begin_72 ⟨(show 0 + dc_88 + dc_108 + (PC ws_105 + (0)) ≤ PC ws + (0) from (by have e0 : (0 : Int32).toInt = 0 := (by decide); have q_f_16 := Hide.out f_16; have q_f_25 := Hide.out f_25; omega)), (show 0 + ds_89 + ds_109 + (PS ws_105 + (0)) ≤ PS ws + (0) from (by have e0 : (0 : Int32).toInt = 0 := (by decide); have q_f_16 := Hide.out f_16; have q_f_25 := Hide.out f_25; omega))⟩) hS (fun q _ h => hFc q h) hFc (fun r_130 ws_131 t9 H1 locs ht9 hvm9 hw9 hB9 hz9 hk9 hS => ?_)
  obtain ⟨E_132, Fr_133, hG, hP1, hD1, dc_134, ds_135, hLd, hdc_134, hds_135⟩ := hB9
  rw [ht9] at hLd
  refine W_tight (hL0.tr hLd).1 (hL0.tr hLd).2.1 ?_
  clear hL0 hLd
  have hP : va_P (gD g) cl0 ws_131 H1 := by rw [← ht9]; exact hP1
  have hD : va_D A ws_131 := hD1.weaken (fun _ _ _ h => hFc _ h)
  obtain ⟨hw9, xp_136, xp_137⟩ := hw9
  clear hP1 hD1 hz9 hk9 hvm9 ht9 hw9
  generalize H1 = H at hP hS ⊢
  have o_h0 := E_132.1 _ _ o_h0
  have o_b1 := E_132.1 _ _ o_b1
  obtain ⟨fs9, hk_138, hq_138⟩ := ((gA.tr (gF.a (F' := [(0, 0), (0, 1), (10, 5), (10, 6)]) Fr_107 (fun _ h => h)) (gF.a (F' := [(0, 0), (0, 1), (10, 5), (10, 6)]) Fr_133 (fun _ h => h)))) _ _ _ hk_92
  refine opn_X11 hG hk_138 (fun r0_138 r1_138 r2_138 r3_138 n3_138 r4_138 n4_138 c5_138 c6_138 v7_138 c8_138 c9_138 r10_138 n10_138 r11_138 n11_138 r12_138 n12_138 r13_138 n13_138 r14_138 v15_138 r16_138 n16_138 r17_138 n17_138 hf9 o_r0_138 o_r1_138 o_r2_138 a_r3_138 f4_138 a_r4_138 f6_138 hz_c6_138 o_v7_138 a_r10_138 f10_138 a_r11_138 f12_138 a_r12_138 f14_138 a_r13_138 f16_138 o_r14_138 o_v15_138 a_r16_138 f20_138 a_r17_138 f22_138 f23_138 f24_138 f25_138 f26_138 f27_138 f28_138 => ?_)
  subst hf9
  obtain rfl := fe_r (hq_138 0 (by decide))
  have o_r0_1 := o_r0_138
  obtain rfl := fe_r (hq_138 1 (by decide))
  have o_r1_1 := o_r1_138
  have hn9 := fe_qr (hq_138 7 (by decide))
  subst hn9
  have o_b1 := o_v7_138 _ rfl
  obtain rfl := fe_i (hq_138 9 (by decide))
  obtain rfl := fe_r (hq_138 10 (by decide))
  have hn9 := gI_n hD (((E_106.tr E_132)).1 _ _ aa_114) a_r10_138
  subst hn9
  have a_r10_1 := a_r10_138
  obtain rfl := fe_r (hq_138 11 (by decide))
  have hn9 := gI_n hD (((E_106.tr E_132)).1 _ _ aa_115) a_r11_138
  subst hn9
  have a_r11_1 := a_r11_138
  obtain rfl := fe_r (hq_138 12 (by decide))
  have hn9 := gI_n hD (((E_106.tr E_132)).1 _ _ aa_116) a_r12_138
  subst hn9
  have a_r12_1 := a_r12_138
  obtain rfl := fe_r (hq_138 13 (by decide))
  have hn9 := gI_n hD (((E_106.tr E_132)).1 _ _ aa_117) a_r13_138
  subst hn9
  have a_r13_1 := a_r13_138
  obtain rfl := fe_q (hq_138 15 (by decide))
  have o_v15_1 := o_v15_138
  have hV9 : okv ws_131 10 9 (.int r_130) := okv_i
  refine va_put (D := gD g) (ci := 10) (v := .int r_130) (ty := .int) (C := RX11) (T := TX11) (N := 18) hx hb hts inX11 tyX11 tyX11_ok nmX11 hown hK hP hD hS k_1 hk_138 rfl 9 (by decide) (hts _ kw_122) (fun _ h9 => h9) rfl (by decide +kernel) rfl rfl (Nat.le_of_ble_eq_true rfl) dX11_begin_75 (fun H locs hP hD hS => ?_)
  have hi_139 : invX11 g ws_131 h0 [.ref r0_1, .ref r1_1, .ref r2_138, .ref r3_138, .ref r4_138, .int c5_138, .int c6_138, .ref b1, .int c8_138, .int r_130, .ref r10_1, .ref r11_1, .ref r12_1, .ref r13_1, .ref r14_138, va_rf v15_1, .ref r16_138, .ref r17_138] := ⟨r0_1, r1_1, r2_138, r3_138, (n3_138), r4_138, (n4_138), (c5_138), (c6_138), (some b1), (c8_138), (r_130), r10_1, (n10_1), r11_1, (n11_1), r12_1, (n12_1), r13_1, (n13_1), r14_138, v15_1, r16_138, (n16_138), r17_138, (n17_138), rfl, o_r0_1, o_r1_1, o_r2_138, a_r3_138, f4_138, a_r4_138, f6_138, hz_c6_138, (fun b h9 => by cases h9; exact o_b1), a_r10_1, f10_138, a_r11_1, f12_138, a_r12_1, f14_138, a_r13_1, f16_138, o_r14_138, o_v15_1, a_r16_138, f20_138, a_r17_138, f22_138, f23_138, f24_138, f25_138, f26_138, f27_138, f28_138, trivial⟩
  obtain ⟨ws_140, e_ws_140⟩ : ∃ z, z = ws_131.set k_1 (h0, .inr (10, [.ref r0_1, .ref r1_1, .ref r2_138, .ref r3_138, .ref r4_138, .int c5_138, .int c6_138, .ref b1, .int c8_138, .int r_130, .ref r10_1, .ref r11_1, .ref r12_1, .ref r13_1, .ref r14_138, va_rf v15_1, .ref r16_138, .ref r17_138])) := ⟨_, rfl⟩
  have hP : va_P (gD g) cl0 ws_140 H := by rw [e_ws_140]; exact hP
  have hD : va_D A ws_140 := by rw [e_ws_140]; exact hD
  have E_141 : gE ws_131 ws_140 := gE_set e_ws_140 hk_138 (cw_o (fi := 9) (v := .int r_130) rfl (by decide))
  have hG : Good g ws_140 := Good_set (fi := 9) (v := .int r_130) e_ws_140 hk_138 E_141 rfl hV9 hG (ivX11 hi_139)
  have Fr_142 : gF [(10, 9)] [] (some h0) ws_131 ws_140 := gF_put (fi := 9) (v := .int r_130) e_ws_140 hk_138 rfl (by decide)
  have pp_143 := Fr_142.pp
  have hkN := gset_self e_ws_140 hk_138
  have hk_138 := hkN
  have o_h0 := E_141.1 _ _ o_h0
  have o_b1 := E_141.1 _ _ o_b1
  have o_r2_138 := E_141.1 _ _ o_r2_138
  have a_r3_138 := E_141.1 _ _ a_r3_138
  have a_r4_138 := E_141.1 _ _ a_r4_138
  have o_r14_138 := E_141.1 _ _ o_r14_138
  have a_r16_138 := E_141.1 _ _ a_r16_138
  have a_r17_138 := E_141.1 _ _ a_r17_138
  have o_r0_1 := E_141.1 _ _ o_r0_1
  have o_r1_1 := E_141.1 _ _ o_r1_1
  have a_r10_1 := E_141.1 _ _ a_r10_1
  have a_r11_1 := E_141.1 _ _ a_r11_1
  have a_r12_1 := E_141.1 _ _ a_r12_1
  have a_r13_1 := E_141.1 _ _ a_r13_1
  have o_v15_1 : ∀ b, v15_1 = some b → gC ws_140 b 7 := fun b h => E_141.1 _ _ (o_v15_1 b h)
  refine lv_aload_n hx hb dX11_begin_78 rfl (lv_at hl 0 rfl) ?_
  refine lv_bipush (v := 7) hx hb dX11_begin_79 (by decide) ?_
  refine lv_aload_n hx hb dX11_begin_81 rfl (lv_at hl 0 rfl) ?_
  refine lv_aload_n hx hb dX11_begin_82 rfl (lv_at hl 0 rfl) ?_
  refine va_get (D := gD g) (ci := 10) (v := .ref b1) (C := RX11) (T := TX11) (N := 18) hx hb hts inX11 hown hK hP k_1 hk_138 rfl 7 (by decide) (hts _ kw_86) (fun _ h9 => h9) rfl dX11_begin_83 ?_
  obtain ⟨fs9, hk_144, hq_144⟩ := ((gA.tr (gF.a (F' := [(0, 0), (0, 1), (10, 5), (10, 6), (10, 9)]) Fr_107 (by decide)) (gA.tr (gF.a (F' := [(0, 0), (0, 1), (10, 5), (10, 6), (10, 9)]) Fr_133 (by decide)) (gF.a (F' := [(0, 0), (0, 1), (10, 5), (10, 6), (10, 9)]) Fr_142 (by decide))))) _ _ _ hk_98
  refine opn_X10 hG hk_144 (fun r0_144 n0_144 c1_144 c2_144 c3_144 c4_144 r5_144 n5_144 r6_144 n6_144 r7_144 n7_144 c8_144 r9_144 n9_144 r10_144 n10_144 r11_144 n11_144 r12_144 n12_144 r13_144 n13_144 c14_144 c15_144 c16_144 c17_144 hf9 a_r0_144 f1_144 a_r5_144 f3_144 a_r6_144 f5_144 a_r7_144 f7_144 a_r9_144 f9_144 a_r10_144 f11_144 a_r11_144 f13_144 a_r12_144 f15_144 a_r13_144 f17_144 hz_c15_144 f19_144 f20_144 f21_144 f22_144 f23_144 f24_144 f25_144 f26_144 f27_144 f28_144 => ?_)
  subst hf9
  obtain rfl := fe_i (hq_144 2 (by decide))
  obtain rfl := fe_i (hq_144 3 (by decide))
  obtain rfl := fe_i (hq_144 4 (by decide))
  obtain rfl := fe_r (hq_144 5 (by decide))
  have hn9 := gI_n hD (((E_106.tr (E_132.tr E_141))).1 _ _ aa_121) a_r5_144
  subst hn9
  have a_r5_98 := a_r5_144
  obtain rfl := fe_r (hq_144 6 (by decide))
  have hn9 := gI_n hD (((E_106.tr (E_132.tr E_141))).1 _ _ aa_122) a_r6_144
  subst hn9
  have a_r6_98 := a_r6_144
  obtain rfl := fe_i (hq_144 8 (by decide))
  refine va_get (D := gD g) (ci := 9) (v := .int c3_98) (C := RX10) (T := TX10) (N := 18) hx hb hts inX10 hown hK hP k_98 hk_144 rfl 3 (by decide) (hts _ kw_123) (fun _ h9 => h9) rfl dX11_begin_86 ?_
  have tq_145 : nlI3 ws_140 h0 := nlI3_mo ((gF.tr (gF.mo (F' := [(0, 0), (0, 1), (10, 5), (10, 6), (10, 8), (10, 9)]) (C' := [(0, 0), (6, 0), (10, 3), (10, 4), (10, 12), (10, 13)]) (S' := none) Fr_21 (by decide) (fun _ h => absurd h List.not_mem_nil) (Or.inl rfl)) (gF.tr (gF.mo (F' := [(0, 0), (0, 1), (10, 5), (10, 6), (10, 8), (10, 9)]) (C' := [(0, 0), (6, 0), (10, 3), (10, 4), (10, 12), (10, 13)]) (S' := none) Fr_30 (by decide) (fun _ h => absurd h List.not_mem_nil) (Or.inl rfl)) (gF.tr (gF.mo (F' := [(0, 0), (0, 1), (10, 5), (10, 6), (10, 8), (10, 9)]) (C' := [(0, 0), (6, 0), (10, 3), (10, 4), (10, 12), (10, 13)]) (S' := none) Fr_37 (by decide) (fun _ h => absurd h List.not_mem_nil) (Or.inl rfl)) (gF.tr (gF.mo (F' := [(0, 0), (0, 1), (10, 5), (10, 6), (10, 8), (10, 9)]) (C' := [(0, 0), (6, 0), (10, 3), (10, 4), (10, 12), (10, 13)]) (S' := none) Fr_45 (by decide) (fun _ h => absurd h List.not_mem_nil) (Or.inl rfl)) (gF.tr (gF.mo (F' := [(0, 0), (0, 1), (10, 5), (10, 6), (10, 8), (10, 9)]) (C' := [(0, 0), (6, 0), (10, 3), (10, 4), (10, 12), (10, 13)]) (S' := none) Fr_49 (fun _ h => absurd h List.not_mem_nil) (by decide) (Or.inr rfl)) (gF.tr (gF.mo (F' := [(0, 0), (0, 1), (10, 5), (10, 6), (10, 8), (10, 9)]) (C' := [(0, 0), (6, 0), (10, 3), (10, 4), (10, 12), (10, 13)]) (S' := none) Fr_66 (fun _ h => absurd h List.not_mem_nil) (by decide) (Or.inr rfl)) (gF.tr (gF.mo (F' := [(0, 0), (0, 1), (10, 5), (10, 6), (10, 8), (10, 9)]) (C' := [(0, 0), (6, 0), (10, 3), (10, 4), (10, 12), (10, 13)]) (S' := none) Fr_87 (by decide) (by decide) (Or.inr rfl)) (gF.tr (gF.mo (F' := [(0, 0), (0, 1), (10, 5), (10, 6), (10, 8), (10, 9)]) (C' := [(0, 0), (6, 0), (10, 3), (10, 4), (10, 12), (10, 13)]) (S' := none) Fr_96 (by decide) (fun _ h => absurd h List.not_mem_nil) (Or.inl rfl)) (gF.tr (gF.mo (F' := [(0, 0), (0, 1), (10, 5), (10, 6), (10, 8), (10, 9)]) (C' := [(0, 0), (6, 0), (10, 3), (10, 4), (10, 12), (10, 13)]) (S' := none) Fr_107 (by decide) (by decide) (Or.inr rfl)) (gF.tr (gF.mo (F' := [(0, 0), (0, 1), (10, 5), (10, 6), (10, 8), (10, 9)]) (C' := [(0, 0), (6, 0), (10, 3), (10, 4), (10, 12), (10, 13)]) (S' := none) Fr_133 (by decide) (by decide) (Or.inr rfl)) (gF.mo (F' := [(0, 0), (0, 1), (10, 5), (10, 6), (10, 8), (10, 9)]) (C' := [(0, 0), (6, 0), (10, 3), (10, 4), (10, 12), (10, 13)]) (S' := none) Fr_142 (by decide) (fun _ h => absurd h List.not_mem_nil) (Or.inl rfl))))))))))))) (by decide) (by decide) (by decide) (by decide) tq_13
  have tq_146 : nlP ws_140 h0 c3_98 := nlI_at hD hk_138 rfl hk_144 rfl tq_145
  have tq_147 : enP g ws_140 h0 := enP_mo ((gF.mo (F' := [(10, 9)]) (C' := []) (S' := none) Fr_142 (fun _ h => h) (fun _ h => h) (Or.inl rfl))) (by decide) (by decide) (by decide) xp_136
  have tq_148 : wcP ws_140 h0 0 (((0))) (3) := wcP_mo ((gF.mo (F' := [(10, 9)]) (C' := []) (S' := none) Fr_142 (fun _ h => h) (fun _ h => h) (Or.inl rfl))) (by decide) (by decide) (by decide) (by decide) (by decide) xp_137
  have hFc := gfree hD hS hA
  have pg_149 := ge_10_17 hD hk_138 rfl a_r17_138
  refine W_led (fun hL0 => ?_)
  refine va_calli (va_runV (As := [.int c3_98]) (rest := [.int 7, .ref h0]) ⟨hx, hb, hml, hown, hts⟩ (m_X11_nameEntry l g H ws_140 h0 (c3_98) (((0))) (3) hG o_h0 (gN_of hD hk_138 (j := 7) rfl) tq_147 tq_146 tq_148 (by have e0 : (0 : Int32).toInt = 0 := (by decide); have e3 : (3 : Int32).toInt = 3 := (by decide); have q_f_16 := Hide.out f_16; have q_f_25 := Hide.out f_25; omega)) (cwV 1 hts (gd_V kw_88 kw_217 kw_218 kw_83 kw_216) rfl rfl rfl (by decide +kernel) ⟨Nat.le_of_ble_eq_true rfl, Nat.le_of_ble_eq_true rfl⟩) ⟨gblindH, va_recv hK hP (ci := 10) (q0 := k_1) rfl hk_138, fun U hU hW9 => gmkH hU hW9 hP hK hD hex hE hS hFc⟩ rfl rfl hl.1 rfl (lv_room (Nat.le_of_ble_eq_true rfl)) dX11_begin_89 ⟨(show 0 + dc_88 + dc_108 + dc_134 + (PC ws_140 + (0)) ≤ PC ws + (0) from (by have e0 : (0 : Int32).toInt = 0 := (by decide); have q_f_16 := Hide.out f_16; have q_f_25 := Hide.out f_25; omega)), (show 0 + ds_89 + ds_109 + ds_135 + (PS ws_140 + (0)) ≤ PS ws + (0) from (by have e0 : (0 : Int32).toInt = 0 := (by decide); have q_f_16 := Hide.out f_16; have q_f_25 := Hide.out f_25; omega))⟩) hS (fun q _ h => hFc q h) hFc (fun r_150 ws_151 t9 H1 locs ht9 hvm9 hw9 hB9 hz9 hk9 hS => ?_)
  obtain ⟨E_152, Fr_153, hG, hP1, hD1, dc_154, ds_155, hLd, hdc_154, hds_155⟩ := hB9
  rw [ht9] at hLd
  refine W_tight (hL0.tr hLd).1 (hL0.tr hLd).2.1 ?_
  clear hL0 hLd
  have hP : va_P (gD g) cl0 ws_151 H1 := by rw [← ht9]; exact hP1
  have hD : va_D A ws_151 := hD1.weaken (fun _ _ _ h => hFc _ h)
  obtain ⟨hw9, xp_156, xp_157⟩ := hw9
  clear hP1 hD1 hz9 hk9 hvm9 ht9 hw9
  generalize H1 = H at hP hS ⊢
  have aa_158 := a_r3_138
  have aa_159 := a_r4_138
  have aa_160 := a_r10_1
  have aa_161 := a_r11_1
  have aa_162 := a_r12_1
  have aa_163 := a_r13_1
  have aa_164 := a_r16_138
  have aa_165 := a_r17_138
  have aa_166 := a_r0_144
  have aa_167 := a_r5_98
  have aa_168 := a_r6_98
  have aa_169 := a_r7_144
  have aa_170 := a_r9_144
  have aa_171 := a_r10_144
  have aa_172 := a_r11_144
  have aa_173 := a_r12_144
  have aa_174 := a_r13_144
  have o_h0 := E_152.1 _ _ o_h0
  have o_b1 := E_152.1 _ _ o_b1
  have hFc := gfree hD hS hA
  refine W_led (fun hL0 => ?_)
  obtain ⟨k_175, fs_175, hk_175⟩ := gC_of o_h0
  refine va_calli (va_runV (As := [.int 7, .int r_150]) (rest := []) ⟨hx, hb, hml, hown, hts⟩ (m_X11_pointerEntry l g H ws_151 h0 (7) (r_150) ((((0)))) (103) hG o_h0 xp_156 xp_157 (by have e0 : (0 : Int32).toInt = 0 := (by decide); have e103 : (103 : Int32).toInt = 103 := (by decide); have q_f_16 := Hide.out f_16; have q_f_25 := Hide.out f_25; omega)) (cwV 2 hts (gd_V kw_121 kw_231 kw_232 kw_83 kw_230) rfl rfl rfl (by decide +kernel) ⟨Nat.le_of_ble_eq_true rfl, Nat.le_of_ble_eq_true rfl⟩) ⟨gblindH, va_recv hK hP (ci := 10) (q0 := k_175) rfl hk_175, fun U hU hW9 => gmkH hU hW9 hP hK hD hex hE hS hFc⟩ rfl rfl hl.1 rfl (lv_room (Nat.le_of_ble_eq_true rfl)) dX11_begin_92 ⟨(show 0 + dc_88 + dc_108 + dc_134 + dc_154 + (PC ws_151 + (0)) ≤ PC ws + (0) from (by have e0 : (0 : Int32).toInt = 0 := (by decide); have q_f_16 := Hide.out f_16; have q_f_25 := Hide.out f_25; omega)), (show 0 + ds_89 + ds_109 + ds_135 + ds_155 + (PS ws_151 + (0)) ≤ PS ws + (0) from (by have e0 : (0 : Int32).toInt = 0 := (by decide); have q_f_16 := Hide.out f_16; have q_f_25 := Hide.out f_25; omega))⟩) hS (fun q _ h => hFc q h) hFc (fun r_176 ws_177 t9 H1 locs ht9 hvm9 hw9 hB9 hz9 hk9 hS => ?_)
  obtain ⟨E_178, Fr_179, hG, hP1, hD1, dc_180, ds_181, hLd, hdc_180, hds_181⟩ := hB9
  rw [ht9] at hLd
  refine W_tight (hL0.tr hLd).1 (hL0.tr hLd).2.1 ?_
  clear hL0 hLd
  have hP : va_P (gD g) cl0 ws_177 H1 := by rw [← ht9]; exact hP1
  have hD : va_D A ws_177 := hD1.weaken (fun _ _ _ h => hFc _ h)
  obtain ⟨hw9, xp_182, xp_183⟩ := hw9
  clear hP1 hD1 hz9 hk9 hvm9 ht9 hw9
  generalize H1 = H at hP hS ⊢
  have o_h0 := E_178.1 _ _ o_h0
  have o_b1 := E_178.1 _ _ o_b1
  refine lv_istore_n (lv' := [(3, .int r_176), (0, .ref h0), (1, .ref b1), (2, .int x2)]) hx hb dX11_begin_95 rfl hl (by decide) rfl (fun ls hl => ?_)
  refine lv_aload_n hx hb dX11_begin_96 rfl (lv_at hl 1 rfl) ?_
  obtain ⟨fs9, hk_184, hq_184⟩ := ((gA.tr (gF.a (F' := [(0, 0), (0, 1), (10, 5), (10, 6)]) Fr_153 (fun _ h => h)) (gF.a (F' := [(0, 0), (0, 1), (10, 5), (10, 6)]) Fr_179 (fun _ h => h)))) _ _ _ hk_138
  refine opn_X11 hG hk_184 (fun r0_184 r1_184 r2_184 r3_184 n3_184 r4_184 n4_184 c5_184 c6_184 v7_184 c8_184 c9_184 r10_184 n10_184 r11_184 n11_184 r12_184 n12_184 r13_184 n13_184 r14_184 v15_184 r16_184 n16_184 r17_184 n17_184 hf9 o_r0_184 o_r1_184 o_r2_184 a_r3_184 f4_184 a_r4_184 f6_184 hz_c6_184 o_v7_184 a_r10_184 f10_184 a_r11_184 f12_184 a_r12_184 f14_184 a_r13_184 f16_184 o_r14_184 o_v15_184 a_r16_184 f20_184 a_r17_184 f22_184 f23_184 f24_184 f25_184 f26_184 f27_184 f28_184 => ?_)
  subst hf9
  obtain rfl := fe_r (hq_184 0 (by decide))
  have o_r0_1 := o_r0_184
  obtain rfl := fe_r (hq_184 1 (by decide))
  have o_r1_1 := o_r1_184
  have hn9 := fe_qr (hq_184 7 (by decide))
  subst hn9
  have o_b1 := o_v7_184 _ rfl
  obtain rfl := fe_i (hq_184 9 (by decide))
  obtain rfl := fe_r (hq_184 10 (by decide))
  have hn9 := gI_n hD (((E_152.tr E_178)).1 _ _ aa_160) a_r10_184
  subst hn9
  have a_r10_1 := a_r10_184
  obtain rfl := fe_r (hq_184 11 (by decide))
  have hn9 := gI_n hD (((E_152.tr E_178)).1 _ _ aa_161) a_r11_184
  subst hn9
  have a_r11_1 := a_r11_184
  obtain rfl := fe_r (hq_184 12 (by decide))
  have hn9 := gI_n hD (((E_152.tr E_178)).1 _ _ aa_162) a_r12_184
  subst hn9
  have a_r12_1 := a_r12_184
  obtain rfl := fe_r (hq_184 13 (by decide))
  have hn9 := gI_n hD (((E_152.tr E_178)).1 _ _ aa_163) a_r13_184
  subst hn9
  have a_r13_1 := a_r13_184
  obtain rfl := fe_q (hq_184 15 (by decide))
  have o_v15_1 := o_v15_184
  refine va_get (D := gD g) (ci := 10) (v := .ref r1_1) (C := RX11) (T := TX11) (N := 18) hx hb hts inX11 hown hK hP k_1 hk_184 rfl 1 (by decide) (hts _ kw_94) (fun _ h9 => h9) rfl dX11_begin_97 ?_
  refine lv_bipush (v := 33) hx hb dX11_begin_100 (by decide) ?_
  obtain ⟨fs9, hk_185, hq_185⟩ := ((gA.tr (gF.a (F' := [(0, 0), (0, 1), (10, 5), (10, 6), (10, 8), (10, 9)]) Fr_49 (fun _ h => absurd h List.not_mem_nil)) (gA.tr (gF.a (F' := [(0, 0), (0, 1), (10, 5), (10, 6), (10, 8), (10, 9)]) Fr_66 (fun _ h => absurd h List.not_mem_nil)) (gA.tr (gF.a (F' := [(0, 0), (0, 1), (10, 5), (10, 6), (10, 8), (10, 9)]) Fr_87 (by decide)) (gA.tr (gF.a (F' := [(0, 0), (0, 1), (10, 5), (10, 6), (10, 8), (10, 9)]) Fr_96 (by decide)) (gA.tr (gF.a (F' := [(0, 0), (0, 1), (10, 5), (10, 6), (10, 8), (10, 9)]) Fr_107 (by decide)) (gA.tr (gF.a (F' := [(0, 0), (0, 1), (10, 5), (10, 6), (10, 8), (10, 9)]) Fr_133 (by decide)) (gA.tr (gF.a (F' := [(0, 0), (0, 1), (10, 5), (10, 6), (10, 8), (10, 9)]) Fr_142 (by decide)) (gA.tr (gF.a (F' := [(0, 0), (0, 1), (10, 5), (10, 6), (10, 8), (10, 9)]) Fr_153 (by decide)) (gF.a (F' := [(0, 0), (0, 1), (10, 5), (10, 6), (10, 8), (10, 9)]) Fr_179 (by decide))))))))))) _ _ _ hk_24
  refine opn_X0 hG hk_185 (fun r0_185 n0_185 c1_185 hf9 a_r0_185 f1_185 f2_185 f3_185 f4_185 f5_185 => ?_)
  subst hf9
  have wb_186 : c1_185.toInt ≤ (((((0))))) := wcP_u1 hD hk_184 rfl hk_185 rfl xp_183
  replace wb_186 := hide wb_186
  have hkW := hk_184
  have hDW := hD
  have hFc := gfree hD hS hA
  have pg_187 := ge_10_17 hD hk_184 rfl a_r17_184
  have pg_188 := ge_0_0 hD hk_185 rfl a_r0_185
  refine W_led (fun hL0 => ?_)
  refine va_callv (va_runV (As := [.int 33]) (rest := []) ⟨hx, hb, hml, hown, hts⟩ (m_X0_put2 l g H ws_177 r1_1 (33) (c1_185) hG o_r1_1 (gP_of hD hk_185 (fun q90 e90 => by cases e90; exact (by first | (have e0 : (0 : Int32).toInt = 0 := (by decide); have q_f_16 := Hide.out f_16; have q_f_25 := Hide.out f_25; have q_f2_185 := Hide.out f2_185; have q_f3_185 := Hide.out f3_185; have q_wb_186 := Hide.out wb_186; have g_c1_185 := i_rg c1_185; omega) | (have e0 : (0 : Int32).toInt = 0 := (by decide); have q_f_16 := Hide.out f_16; have q_f_25 := Hide.out f_25; have q_f2_185 := Hide.out f2_185; have q_f3_185 := Hide.out f3_185; have q_wb_186 := Hide.out wb_186; have q_f1_185 := Hide.out f1_185; have q_f4_185 := Hide.out f4_185; have q_f5_185 := Hide.out f5_185; have g_c1_185 := i_rg c1_185; omega)))) (gP_of hD hk_185 (fun q90 e90 => by cases e90; exact (by first | (have e0 : (0 : Int32).toInt = 0 := (by decide); have q_f_16 := Hide.out f_16; have q_f_25 := Hide.out f_25; have q_f2_185 := Hide.out f2_185; have q_f3_185 := Hide.out f3_185; have q_wb_186 := Hide.out wb_186; have g_c1_185 := i_rg c1_185; omega) | (have e0 : (0 : Int32).toInt = 0 := (by decide); have q_f_16 := Hide.out f_16; have q_f_25 := Hide.out f_25; have q_f2_185 := Hide.out f2_185; have q_f3_185 := Hide.out f3_185; have q_wb_186 := Hide.out wb_186; have q_f1_185 := Hide.out f1_185; have q_f4_185 := Hide.out f4_185; have q_f5_185 := Hide.out f5_185; have g_c1_185 := i_rg c1_185; omega))))) (cwV 1 hts (gd_V kw_96 kw_17 kw_18 kw_3 kw_16) rfl rfl rfl (by decide +kernel) ⟨Nat.le_of_ble_eq_true rfl, Nat.le_of_ble_eq_true rfl⟩) ⟨gblindH, va_recv hK hP (ci := 0) (q0 := k_24) rfl hk_185, fun U hU hW9 => gmkH hU hW9 hP hK hD hex hE hS hFc⟩ rfl rfl hl.1 rfl (lv_room (Nat.le_of_ble_eq_true rfl)) dX11_begin_102 ⟨(show 0 + dc_88 + dc_108 + dc_134 + dc_154 + dc_180 + (PC ws_177 + (0)) ≤ PC ws + (0) from (by have e0 : (0 : Int32).toInt = 0 := (by decide); have q_f_16 := Hide.out f_16; have q_f_25 := Hide.out f_25; omega)), (show 0 + ds_89 + ds_109 + ds_135 + ds_155 + ds_181 + (PS ws_177 + (0)) ≤ PS ws + (0) from (by have e0 : (0 : Int32).toInt = 0 := (by decide); have q_f_16 := Hide.out f_16; have q_f_25 := Hide.out f_25; omega))⟩) hS (fun q _ h => hFc q h) hFc (fun  ws_189 t9 H1 locs ht9 hvm9 hw9 hB9 hz9 hk9 hS => ?_)
  obtain ⟨E_190, Fr_191, hG, hP1, hD1, dc_192, ds_193, hLd, hdc_192, hds_193⟩ := hB9
  rw [ht9] at hLd
  refine W_tight (hL0.tr hLd).1 (hL0.tr hLd).2.1 ?_
  clear hL0 hLd
  have hP : va_P (gD g) cl0 ws_189 H1 := by rw [← ht9]; exact hP1
  have hD : va_D A ws_189 := hD1.weaken (fun _ _ _ h => hFc _ h)
  have kf_194 := hw9
  clear hP1 hD1 hz9 hk9 hvm9 ht9 hw9
  generalize H1 = H at hP hS ⊢
  have aa_195 := a_r3_184
  have aa_196 := a_r4_184
  have aa_197 := a_r10_1
  have aa_198 := a_r11_1
  have aa_199 := a_r12_1
  have aa_200 := a_r13_1
  have aa_201 := a_r16_184
  have aa_202 := a_r17_184
  have aa_203 := a_r0_185
  have o_h0 := E_190.1 _ _ o_h0
  have o_b1 := E_190.1 _ _ o_b1
  have tq_204 : wcP ws_189 h0 0 ((((((0))))) + 2) (3) := wcP_1 hDW hG Fr_191 (by decide) (by decide) (by decide) (by decide) hkW rfl (fun k9 ci9 fs9 h9 c9 e9 => by have w9 := kf_194 _ _ _ h9 c9 e9; have w8 := Hide.out wb_186; omega) xp_183
  refine lv_aload_n hx hb dX11_begin_105 rfl (lv_at hl 1 rfl) ?_
  obtain ⟨fs9, hk_205, hq_205⟩ := ((gF.a (F' := [(0, 0), (0, 1)]) Fr_191 (fun _ h => h))) _ _ _ hk_184
  refine opn_X11 hG hk_205 (fun r0_205 r1_205 r2_205 r3_205 n3_205 r4_205 n4_205 c5_205 c6_205 v7_205 c8_205 c9_205 r10_205 n10_205 r11_205 n11_205 r12_205 n12_205 r13_205 n13_205 r14_205 v15_205 r16_205 n16_205 r17_205 n17_205 hf9 o_r0_205 o_r1_205 o_r2_205 a_r3_205 f4_205 a_r4_205 f6_205 hz_c6_205 o_v7_205 a_r10_205 f10_205 a_r11_205 f12_205 a_r12_205 f14_205 a_r13_205 f16_205 o_r14_205 o_v15_205 a_r16_205 f20_205 a_r17_205 f22_205 f23_205 f24_205 f25_205 f26_205 f27_205 f28_205 => ?_)
  subst hf9
  obtain rfl := fe_r (hq_205 0 (by decide))
  have o_r0_1 := o_r0_205
  obtain rfl := fe_r (hq_205 1 (by decide))
  have o_r1_1 := o_r1_205
  have hn9 := fe_qr (hq_205 7 (by decide))
  subst hn9
  have o_b1 := o_v7_205 _ rfl
  obtain rfl := fe_i (hq_205 9 (by decide))
  obtain rfl := fe_r (hq_205 10 (by decide))
  have hn9 := gI_n hD ((E_190).1 _ _ aa_197) a_r10_205
  subst hn9
  have a_r10_1 := a_r10_205
  obtain rfl := fe_r (hq_205 11 (by decide))
  have hn9 := gI_n hD ((E_190).1 _ _ aa_198) a_r11_205
  subst hn9
  have a_r11_1 := a_r11_205
  obtain rfl := fe_r (hq_205 12 (by decide))
  have hn9 := gI_n hD ((E_190).1 _ _ aa_199) a_r12_205
  subst hn9
  have a_r12_1 := a_r12_205
  obtain rfl := fe_r (hq_205 13 (by decide))
  have hn9 := gI_n hD ((E_190).1 _ _ aa_200) a_r13_205
  subst hn9
  have a_r13_1 := a_r13_205
  obtain rfl := fe_q (hq_205 15 (by decide))
  have o_v15_1 := o_v15_205
  refine va_get (D := gD g) (ci := 10) (v := .ref r1_1) (C := RX11) (T := TX11) (N := 18) hx hb hts inX11 hown hK hP k_1 hk_205 rfl 1 (by decide) (hts _ kw_94) (fun _ h9 => h9) rfl dX11_begin_106 ?_
  refine lv_aload_n hx hb dX11_begin_109 rfl (lv_at hl 1 rfl) ?_
  refine va_get (D := gD g) (ci := 10) (v := .int r_130) (C := RX11) (T := TX11) (N := 18) hx hb hts inX11 hown hK hP k_1 hk_205 rfl 9 (by decide) (hts _ kw_122) (fun _ h9 => h9) rfl dX11_begin_110 ?_
  obtain ⟨fs9, hk_206, hq_206⟩ := ((gF.a (F' := [(0, 0), (0, 1)]) Fr_191 (fun _ h => h))) _ _ _ hk_185
  refine opn_X0 hG hk_206 (fun r0_206 n0_206 c1_206 hf9 a_r0_206 f1_206 f2_206 f3_206 f4_206 f5_206 => ?_)
  subst hf9
  have kq_207 := kf_194 _ _ _ hk_206 _ rfl
  replace kq_207 := hide kq_207
  have wb_208 : c1_206.toInt ≤ ((((((0))))) + 2) := wcP_u1 hD hk_205 rfl hk_206 rfl tq_204
  replace wb_208 := hide wb_208
  have hkW := hk_205
  have hDW := hD
  have hFc := gfree hD hS hA
  have pg_209 := ge_10_17 hD hk_205 rfl a_r17_205
  have pg_210 := ge_0_0 hD hk_206 rfl a_r0_206
  refine W_led (fun hL0 => ?_)
  refine va_callv (va_runV (As := [.int r_130]) (rest := []) ⟨hx, hb, hml, hown, hts⟩ (m_X0_put2 l g H ws_189 r1_1 (r_130) (c1_206) hG o_r1_1 (gP_of hD hk_206 (fun q90 e90 => by cases e90; exact (by first | (have e0 : (0 : Int32).toInt = 0 := (by decide); have q_f_16 := Hide.out f_16; have q_f_25 := Hide.out f_25; have q_f2_206 := Hide.out f2_206; have q_f3_206 := Hide.out f3_206; have q_kq_207 := Hide.out kq_207; have q_wb_208 := Hide.out wb_208; have g_c1_185 := i_rg c1_185; have g_c1_206 := i_rg c1_206; omega) | (have e0 : (0 : Int32).toInt = 0 := (by decide); have q_f_16 := Hide.out f_16; have q_f_25 := Hide.out f_25; have q_f2_206 := Hide.out f2_206; have q_f3_206 := Hide.out f3_206; have q_kq_207 := Hide.out kq_207; have q_wb_208 := Hide.out wb_208; have q_f2_185 := Hide.out f2_185; have q_f3_185 := Hide.out f3_185; have q_wb_186 := Hide.out wb_186; have q_f1_206 := Hide.out f1_206; have q_f4_206 := Hide.out f4_206; have q_f5_206 := Hide.out f5_206; have g_c1_185 := i_rg c1_185; have g_c1_206 := i_rg c1_206; omega) | (have e0 : (0 : Int32).toInt = 0 := (by decide); have q_f_16 := Hide.out f_16; have q_f_25 := Hide.out f_25; have q_f2_206 := Hide.out f2_206; have q_f3_206 := Hide.out f3_206; have q_kq_207 := Hide.out kq_207; have q_wb_208 := Hide.out wb_208; have q_f2_185 := Hide.out f2_185; have q_f3_185 := Hide.out f3_185; have q_wb_186 := Hide.out wb_186; have q_f1_206 := Hide.out f1_206; have q_f4_206 := Hide.out f4_206; have q_f5_206 := Hide.out f5_206; have q_f1_185 := Hide.out f1_185; have q_f4_185 := Hide.out f4_185; have q_f5_185 := Hide.out f5_185; have g_c1_185 := i_rg c1_185; have g_c1_206 := i_rg c1_206; omega)))) (gP_of hD hk_206 (fun q90 e90 => by cases e90; exact (by first | (have e0 : (0 : Int32).toInt = 0 := (by decide); have q_f_16 := Hide.out f_16; have q_f_25 := Hide.out f_25; have q_f2_206 := Hide.out f2_206; have q_f3_206 := Hide.out f3_206; have q_kq_207 := Hide.out kq_207; have q_wb_208 := Hide.out wb_208; have g_c1_185 := i_rg c1_185; have g_c1_206 := i_rg c1_206; omega) | (have e0 : (0 : Int32).toInt = 0 := (by decide); have q_f_16 := Hide.out f_16; have q_f_25 := Hide.out f_25; have q_f2_206 := Hide.out f2_206; have q_f3_206 := Hide.out f3_206; have q_kq_207 := Hide.out kq_207; have q_wb_208 := Hide.out wb_208; have q_f2_185 := Hide.out f2_185; have q_f3_185 := Hide.out f3_185; have q_wb_186 := Hide.out wb_186; have q_f1_206 := Hide.out f1_206; have q_f4_206 := Hide.out f4_206; have q_f5_206 := Hide.out f5_206; have g_c1_185 := i_rg c1_185; have g_c1_206 := i_rg c1_206; omega) | (have e0 : (0 : Int32).toInt = 0 := (by decide); have q_f_16 := Hide.out f_16; have q_f_25 := Hide.out f_25; have q_f2_206 := Hide.out f2_206; have q_f3_206 := Hide.out f3_206; have q_kq_207 := Hide.out kq_207; have q_wb_208 := Hide.out wb_208; have q_f2_185 := Hide.out f2_185; have q_f3_185 := Hide.out f3_185; have q_wb_186 := Hide.out wb_186; have q_f1_206 := Hide.out f1_206; have q_f4_206 := Hide.out f4_206; have q_f5_206 := Hide.out f5_206; have q_f1_185 := Hide.out f1_185; have q_f4_185 := Hide.out f4_185; have q_f5_185 := Hide.out f5_185; have g_c1_185 := i_rg c1_185; have g_c1_206 := i_rg c1_206; omega))))) (cwV 1 hts (gd_V kw_96 kw_17 kw_18 kw_3 kw_16) rfl rfl rfl (by decide +kernel) ⟨Nat.le_of_ble_eq_true rfl, Nat.le_of_ble_eq_true rfl⟩) ⟨gblindH, va_recv hK hP (ci := 0) (q0 := k_24) rfl hk_206, fun U hU hW9 => gmkH hU hW9 hP hK hD hex hE hS hFc⟩ rfl rfl hl.1 rfl (lv_room (Nat.le_of_ble_eq_true rfl)) dX11_begin_113 ⟨(show 0 + dc_88 + dc_108 + dc_134 + dc_154 + dc_180 + dc_192 + (PC ws_189 + (0)) ≤ PC ws + (0) from (by have e0 : (0 : Int32).toInt = 0 := (by decide); have q_f_16 := Hide.out f_16; have q_f_25 := Hide.out f_25; omega)), (show 0 + ds_89 + ds_109 + ds_135 + ds_155 + ds_181 + ds_193 + (PS ws_189 + (0)) ≤ PS ws + (0) from (by have e0 : (0 : Int32).toInt = 0 := (by decide); have q_f_16 := Hide.out f_16; have q_f_25 := Hide.out f_25; omega))⟩) hS (fun q _ h => hFc q h) hFc (fun  ws_211 t9 H1 locs ht9 hvm9 hw9 hB9 hz9 hk9 hS => ?_)
  obtain ⟨E_212, Fr_213, hG, hP1, hD1, dc_214, ds_215, hLd, hdc_214, hds_215⟩ := hB9
  rw [ht9] at hLd
  refine W_tight (hL0.tr hLd).1 (hL0.tr hLd).2.1 ?_
  clear hL0 hLd
  have hP : va_P (gD g) cl0 ws_211 H1 := by rw [← ht9]; exact hP1
  have hD : va_D A ws_211 := hD1.weaken (fun _ _ _ h => hFc _ h)
  have kf_216 := hw9
  clear hP1 hD1 hz9 hk9 hvm9 ht9 hw9
  generalize H1 = H at hP hS ⊢
  have aa_217 := a_r3_205
  have aa_218 := a_r4_205
  have aa_219 := a_r10_1
  have aa_220 := a_r11_1
  have aa_221 := a_r12_1
  have aa_222 := a_r13_1
  have aa_223 := a_r16_205
  have aa_224 := a_r17_205
  have aa_225 := a_r0_206
  have o_h0 := E_212.1 _ _ o_h0
  have o_b1 := E_212.1 _ _ o_b1
  have tq_226 : wcP ws_211 h0 0 (((((((0))))) + 2) + 2) (3) := wcP_1 hDW hG Fr_213 (by decide) (by decide) (by decide) (by decide) hkW rfl (fun k9 ci9 fs9 h9 c9 e9 => by have w9 := kf_216 _ _ _ h9 c9 e9; have w8 := Hide.out wb_208; omega) tq_204
  refine lv_aload_n hx hb dX11_begin_116 rfl (lv_at hl 1 rfl) ?_
  obtain ⟨fs9, hk_227, hq_227⟩ := ((gF.a (F' := [(0, 0), (0, 1)]) Fr_213 (fun _ h => h))) _ _ _ hk_205
  refine opn_X11 hG hk_227 (fun r0_227 r1_227 r2_227 r3_227 n3_227 r4_227 n4_227 c5_227 c6_227 v7_227 c8_227 c9_227 r10_227 n10_227 r11_227 n11_227 r12_227 n12_227 r13_227 n13_227 r14_227 v15_227 r16_227 n16_227 r17_227 n17_227 hf9 o_r0_227 o_r1_227 o_r2_227 a_r3_227 f4_227 a_r4_227 f6_227 hz_c6_227 o_v7_227 a_r10_227 f10_227 a_r11_227 f12_227 a_r12_227 f14_227 a_r13_227 f16_227 o_r14_227 o_v15_227 a_r16_227 f20_227 a_r17_227 f22_227 f23_227 f24_227 f25_227 f26_227 f27_227 f28_227 => ?_)
  subst hf9
  obtain rfl := fe_r (hq_227 0 (by decide))
  have o_r0_1 := o_r0_227
  obtain rfl := fe_r (hq_227 1 (by decide))
  have o_r1_1 := o_r1_227
  have hn9 := fe_qr (hq_227 7 (by decide))
  subst hn9
  have o_b1 := o_v7_227 _ rfl
  obtain rfl := fe_i (hq_227 9 (by decide))
  obtain rfl := fe_r (hq_227 10 (by decide))
  have hn9 := gI_n hD ((E_212).1 _ _ aa_219) a_r10_227
  subst hn9
  have a_r10_1 := a_r10_227
  obtain rfl := fe_r (hq_227 11 (by decide))
  have hn9 := gI_n hD ((E_212).1 _ _ aa_220) a_r11_227
  subst hn9
  have a_r11_1 := a_r11_227
  obtain rfl := fe_r (hq_227 12 (by decide))
  have hn9 := gI_n hD ((E_212).1 _ _ aa_221) a_r12_227
  subst hn9
  have a_r12_1 := a_r12_227
  obtain rfl := fe_r (hq_227 13 (by decide))
  have hn9 := gI_n hD ((E_212).1 _ _ aa_222) a_r13_227
  subst hn9
  have a_r13_1 := a_r13_227
  obtain rfl := fe_q (hq_227 15 (by decide))
  have o_v15_1 := o_v15_227
  refine va_get (D := gD g) (ci := 10) (v := .ref r1_1) (C := RX11) (T := TX11) (N := 18) hx hb hts inX11 hown hK hP k_1 hk_227 rfl 1 (by decide) (hts _ kw_94) (fun _ h9 => h9) rfl dX11_begin_117 ?_
  refine lv_iload_n hx hb dX11_begin_120 rfl (lv_at hl 0 rfl) ?_
  obtain ⟨fs9, hk_228, hq_228⟩ := ((gF.a (F' := [(0, 0), (0, 1)]) Fr_213 (fun _ h => h))) _ _ _ hk_206
  refine opn_X0 hG hk_228 (fun r0_228 n0_228 c1_228 hf9 a_r0_228 f1_228 f2_228 f3_228 f4_228 f5_228 => ?_)
  subst hf9
  have kq_229 := kf_216 _ _ _ hk_228 _ rfl
  replace kq_229 := hide kq_229
  have wb_230 : c1_228.toInt ≤ (((((((0))))) + 2) + 2) := wcP_u1 hD hk_227 rfl hk_228 rfl tq_226
  replace wb_230 := hide wb_230
  have hkW := hk_227
  have hDW := hD
  have hFc := gfree hD hS hA
  have pg_231 := ge_10_17 hD hk_227 rfl a_r17_227
  have pg_232 := ge_0_0 hD hk_228 rfl a_r0_228
  refine W_led (fun hL0 => ?_)
  refine va_callv (va_runV (As := [.int r_176]) (rest := []) ⟨hx, hb, hml, hown, hts⟩ (m_X0_put2 l g H ws_211 r1_1 (r_176) (c1_228) hG o_r1_1 (gP_of hD hk_228 (fun q90 e90 => by cases e90; exact (by first | (have e0 : (0 : Int32).toInt = 0 := (by decide); have q_f_16 := Hide.out f_16; have q_f_25 := Hide.out f_25; have q_f2_228 := Hide.out f2_228; have q_f3_228 := Hide.out f3_228; have q_kq_229 := Hide.out kq_229; have q_wb_230 := Hide.out wb_230; have g_c1_206 := i_rg c1_206; have g_c1_228 := i_rg c1_228; omega) | (have e0 : (0 : Int32).toInt = 0 := (by decide); have q_f_16 := Hide.out f_16; have q_f_25 := Hide.out f_25; have q_f2_228 := Hide.out f2_228; have q_f3_228 := Hide.out f3_228; have q_kq_229 := Hide.out kq_229; have q_wb_230 := Hide.out wb_230; have q_f2_206 := Hide.out f2_206; have q_f3_206 := Hide.out f3_206; have q_kq_207 := Hide.out kq_207; have q_wb_208 := Hide.out wb_208; have q_f1_228 := Hide.out f1_228; have q_f4_228 := Hide.out f4_228; have q_f5_228 := Hide.out f5_228; have g_c1_185 := i_rg c1_185; have g_c1_206 := i_rg c1_206; have g_c1_228 := i_rg c1_228; omega) | (have e0 : (0 : Int32).toInt = 0 := (by decide); have q_f_16 := Hide.out f_16; have q_f_25 := Hide.out f_25; have q_f2_228 := Hide.out f2_228; have q_f3_228 := Hide.out f3_228; have q_kq_229 := Hide.out kq_229; have q_wb_230 := Hide.out wb_230; have q_f2_206 := Hide.out f2_206; have q_f3_206 := Hide.out f3_206; have q_kq_207 := Hide.out kq_207; have q_wb_208 := Hide.out wb_208; have q_f1_228 := Hide.out f1_228; have q_f4_228 := Hide.out f4_228; have q_f5_228 := Hide.out f5_228; have q_f2_185 := Hide.out f2_185; have q_f3_185 := Hide.out f3_185; have q_wb_186 := Hide.out wb_186; have q_f1_206 := Hide.out f1_206; have q_f4_206 := Hide.out f4_206; have q_f5_206 := Hide.out f5_206; have g_c1_185 := i_rg c1_185; have g_c1_206 := i_rg c1_206; have g_c1_228 := i_rg c1_228; omega) | (have e0 : (0 : Int32).toInt = 0 := (by decide); have q_f_16 := Hide.out f_16; have q_f_25 := Hide.out f_25; have q_f2_228 := Hide.out f2_228; have q_f3_228 := Hide.out f3_228; have q_kq_229 := Hide.out kq_229; have q_wb_230 := Hide.out wb_230; have q_f2_206 := Hide.out f2_206; have q_f3_206 := Hide.out f3_206; have q_kq_207 := Hide.out kq_207; have q_wb_208 := Hide.out wb_208; have q_f1_228 := Hide.out f1_228; have q_f4_228 := Hide.out f4_228; have q_f5_228 := Hide.out f5_228; have q_f2_185 := Hide.out f2_185; have q_f3_185 := Hide.out f3_185; have q_wb_186 := Hide.out wb_186; have q_f1_206 := Hide.out f1_206; have q_f4_206 := Hide.out f4_206; have q_f5_206 := Hide.out f5_206; have q_f1_185 := Hide.out f1_185; have q_f4_185 := Hide.out f4_185; have q_f5_185 := Hide.out f5_185; have g_c1_185 := i_rg c1_185; have g_c1_206 := i_rg c1_206; have g_c1_228 := i_rg c1_228; omega)))) (gP_of hD hk_228 (fun q90 e90 => by cases e90; exact (by first | (have e0 : (0 : Int32).toInt = 0 := (by decide); have q_f_16 := Hide.out f_16; have q_f_25 := Hide.out f_25; have q_f2_228 := Hide.out f2_228; have q_f3_228 := Hide.out f3_228; have q_kq_229 := Hide.out kq_229; have q_wb_230 := Hide.out wb_230; have g_c1_206 := i_rg c1_206; have g_c1_228 := i_rg c1_228; omega) | (have e0 : (0 : Int32).toInt = 0 := (by decide); have q_f_16 := Hide.out f_16; have q_f_25 := Hide.out f_25; have q_f2_228 := Hide.out f2_228; have q_f3_228 := Hide.out f3_228; have q_kq_229 := Hide.out kq_229; have q_wb_230 := Hide.out wb_230; have q_f2_206 := Hide.out f2_206; have q_f3_206 := Hide.out f3_206; have q_kq_207 := Hide.out kq_207; have q_wb_208 := Hide.out wb_208; have q_f1_228 := Hide.out f1_228; have q_f4_228 := Hide.out f4_228; have q_f5_228 := Hide.out f5_228; have g_c1_185 := i_rg c1_185; have g_c1_206 := i_rg c1_206; have g_c1_228 := i_rg c1_228; omega) | (have e0 : (0 : Int32).toInt = 0 := (by decide); have q_f_16 := Hide.out f_16; have q_f_25 := Hide.out f_25; have q_f2_228 := Hide.out f2_228; have q_f3_228 := Hide.out f3_228; have q_kq_229 := Hide.out kq_229; have q_wb_230 := Hide.out wb_230; have q_f2_206 := Hide.out f2_206; have q_f3_206 := Hide.out f3_206; have q_kq_207 := Hide.out kq_207; have q_wb_208 := Hide.out wb_208; have q_f1_228 := Hide.out f1_228; have q_f4_228 := Hide.out f4_228; have q_f5_228 := Hide.out f5_228; have q_f2_185 := Hide.out f2_185; have q_f3_185 := Hide.out f3_185; have q_wb_186 := Hide.out wb_186; have q_f1_206 := Hide.out f1_206; have q_f4_206 := Hide.out f4_206; have q_f5_206 := Hide.out f5_206; have g_c1_185 := i_rg c1_185; have g_c1_206 := i_rg c1_206; have g_c1_228 := i_rg c1_228; omega) | (have e0 : (0 : Int32).toInt = 0 := (by decide); have q_f_16 := Hide.out f_16; have q_f_25 := Hide.out f_25; have q_f2_228 := Hide.out f2_228; have q_f3_228 := Hide.out f3_228; have q_kq_229 := Hide.out kq_229; have q_wb_230 := Hide.out wb_230; have q_f2_206 := Hide.out f2_206; have q_f3_206 := Hide.out f3_206; have q_kq_207 := Hide.out kq_207; have q_wb_208 := Hide.out wb_208; have q_f1_228 := Hide.out f1_228; have q_f4_228 := Hide.out f4_228; have q_f5_228 := Hide.out f5_228; have q_f2_185 := Hide.out f2_185; have q_f3_185 := Hide.out f3_185; have q_wb_186 := Hide.out wb_186; have q_f1_206 := Hide.out f1_206; have q_f4_206 := Hide.out f4_206; have q_f5_206 := Hide.out f5_206; have q_f1_185 := Hide.out f1_185; have q_f4_185 := Hide.out f4_185; have q_f5_185 := Hide.out f5_185; have g_c1_185 := i_rg c1_185; have g_c1_206 := i_rg c1_206; have g_c1_228 := i_rg c1_228; omega))))) (cwV 1 hts (gd_V kw_96 kw_17 kw_18 kw_3 kw_16) rfl rfl rfl (by decide +kernel) ⟨Nat.le_of_ble_eq_true rfl, Nat.le_of_ble_eq_true rfl⟩) ⟨gblindH, va_recv hK hP (ci := 0) (q0 := k_24) rfl hk_228, fun U hU hW9 => gmkH hU hW9 hP hK hD hex hE hS hFc⟩ rfl rfl hl.1 rfl (lv_room (Nat.le_of_ble_eq_true rfl)) dX11_begin_121 ⟨(show 0 + dc_88 + dc_108 + dc_134 + dc_154 + dc_180 + dc_192 + dc_214 + (PC ws_211 + (0)) ≤ PC ws + (0) from (by have e0 : (0 : Int32).toInt = 0 := (by decide); have q_f_16 := Hide.out f_16; have q_f_25 := Hide.out f_25; omega)), (show 0 + ds_89 + ds_109 + ds_135 + ds_155 + ds_181 + ds_193 + ds_215 + (PS ws_211 + (0)) ≤ PS ws + (0) from (by have e0 : (0 : Int32).toInt = 0 := (by decide); have q_f_16 := Hide.out f_16; have q_f_25 := Hide.out f_25; omega))⟩) hS (fun q _ h => hFc q h) hFc (fun  ws_233 t9 H1 locs ht9 hvm9 hw9 hB9 hz9 hk9 hS => ?_)
  obtain ⟨E_234, Fr_235, hG, hP1, hD1, dc_236, ds_237, hLd, hdc_236, hds_237⟩ := hB9
  rw [ht9] at hLd
  refine W_tight (hL0.tr hLd).1 (hL0.tr hLd).2.1 ?_
  clear hL0 hLd
  have hP : va_P (gD g) cl0 ws_233 H1 := by rw [← ht9]; exact hP1
  have hD : va_D A ws_233 := hD1.weaken (fun _ _ _ h => hFc _ h)
  have kf_238 := hw9
  clear hP1 hD1 hz9 hk9 hvm9 ht9 hw9
  generalize H1 = H at hP hS ⊢
  have aa_239 := a_r3_227
  have aa_240 := a_r4_227
  have aa_241 := a_r10_1
  have aa_242 := a_r11_1
  have aa_243 := a_r12_1
  have aa_244 := a_r13_1
  have aa_245 := a_r16_227
  have aa_246 := a_r17_227
  have aa_247 := a_r0_228
  have o_h0 := E_234.1 _ _ o_h0
  have o_b1 := E_234.1 _ _ o_b1
  have tq_248 : wcP ws_233 h0 0 ((((((((0))))) + 2) + 2) + 2) (3) := wcP_1 hDW hG Fr_235 (by decide) (by decide) (by decide) (by decide) hkW rfl (fun k9 ci9 fs9 h9 c9 e9 => by have w9 := kf_238 _ _ _ h9 c9 e9; have w8 := Hide.out wb_230; omega) tq_226
  refine lv_aload_n hx hb dX11_begin_124 rfl (lv_at hl 1 rfl) ?_
  obtain ⟨fs9, hk_249, hq_249⟩ := ((gF.a (F' := [(0, 0), (0, 1)]) Fr_235 (fun _ h => h))) _ _ _ hk_227
  refine opn_X11 hG hk_249 (fun r0_249 r1_249 r2_249 r3_249 n3_249 r4_249 n4_249 c5_249 c6_249 v7_249 c8_249 c9_249 r10_249 n10_249 r11_249 n11_249 r12_249 n12_249 r13_249 n13_249 r14_249 v15_249 r16_249 n16_249 r17_249 n17_249 hf9 o_r0_249 o_r1_249 o_r2_249 a_r3_249 f4_249 a_r4_249 f6_249 hz_c6_249 o_v7_249 a_r10_249 f10_249 a_r11_249 f12_249 a_r12_249 f14_249 a_r13_249 f16_249 o_r14_249 o_v15_249 a_r16_249 f20_249 a_r17_249 f22_249 f23_249 f24_249 f25_249 f26_249 f27_249 f28_249 => ?_)
  subst hf9
  obtain rfl := fe_r (hq_249 0 (by decide))
  have o_r0_1 := o_r0_249
  obtain rfl := fe_r (hq_249 1 (by decide))
  have o_r1_1 := o_r1_249
  have hn9 := fe_qr (hq_249 7 (by decide))
  subst hn9
  have o_b1 := o_v7_249 _ rfl
  obtain rfl := fe_i (hq_249 9 (by decide))
  obtain rfl := fe_r (hq_249 10 (by decide))
  have hn9 := gI_n hD ((E_234).1 _ _ aa_241) a_r10_249
  subst hn9
  have a_r10_1 := a_r10_249
  obtain rfl := fe_r (hq_249 11 (by decide))
  have hn9 := gI_n hD ((E_234).1 _ _ aa_242) a_r11_249
  subst hn9
  have a_r11_1 := a_r11_249
  obtain rfl := fe_r (hq_249 12 (by decide))
  have hn9 := gI_n hD ((E_234).1 _ _ aa_243) a_r12_249
  subst hn9
  have a_r12_1 := a_r12_249
  obtain rfl := fe_r (hq_249 13 (by decide))
  have hn9 := gI_n hD ((E_234).1 _ _ aa_244) a_r13_249
  subst hn9
  have a_r13_1 := a_r13_249
  obtain rfl := fe_q (hq_249 15 (by decide))
  have o_v15_1 := o_v15_249
  refine va_get (D := gD g) (ci := 10) (v := .ref r1_1) (C := RX11) (T := TX11) (N := 18) hx hb hts inX11 hown hK hP k_1 hk_249 rfl 1 (by decide) (hts _ kw_94) (fun _ h9 => h9) rfl dX11_begin_125 ?_
  refine lv_iconst (v := 0) hx hb dX11_begin_128 (by decide) ?_
  obtain ⟨fs9, hk_250, hq_250⟩ := ((gF.a (F' := [(0, 0), (0, 1)]) Fr_235 (fun _ h => h))) _ _ _ hk_228
  refine opn_X0 hG hk_250 (fun r0_250 n0_250 c1_250 hf9 a_r0_250 f1_250 f2_250 f3_250 f4_250 f5_250 => ?_)
  subst hf9
  have kq_251 := kf_238 _ _ _ hk_250 _ rfl
  replace kq_251 := hide kq_251
  have wb_252 : c1_250.toInt ≤ ((((((((0))))) + 2) + 2) + 2) := wcP_u1 hD hk_249 rfl hk_250 rfl tq_248
  replace wb_252 := hide wb_252
  have hkW := hk_249
  have hDW := hD
  have hFc := gfree hD hS hA
  have pg_253 := ge_10_17 hD hk_249 rfl a_r17_249
  have pg_254 := ge_0_0 hD hk_250 rfl a_r0_250
  refine W_led (fun hL0 => ?_)
  refine va_callv (va_runV (As := [.int 0]) (rest := []) ⟨hx, hb, hml, hown, hts⟩ (m_X0_put2 l g H ws_233 r1_1 (0) (c1_250) hG o_r1_1 (gP_of hD hk_250 (fun q90 e90 => by cases e90; exact (by first | (have e0 : (0 : Int32).toInt = 0 := (by decide); have q_f_16 := Hide.out f_16; have q_f_25 := Hide.out f_25; have q_f2_250 := Hide.out f2_250; have q_f3_250 := Hide.out f3_250; have q_kq_251 := Hide.out kq_251; have q_wb_252 := Hide.out wb_252; have g_c1_228 := i_rg c1_228; have g_c1_250 := i_rg c1_250; omega) | (have e0 : (0 : Int32).toInt = 0 := (by decide); have q_f_16 := Hide.out f_16; have q_f_25 := Hide.out f_25; have q_f2_250 := Hide.out f2_250; have q_f3_250 := Hide.out f3_250; have q_kq_251 := Hide.out kq_251; have q_wb_252 := Hide.out wb_252; have q_f2_228 := Hide.out f2_228; have q_f3_228 := Hide.out f3_228; have q_kq_229 := Hide.out kq_229; have q_wb_230 := Hide.out wb_230; have q_f1_250 := Hide.out f1_250; have q_f4_250 := Hide.out f4_250; have q_f5_250 := Hide.out f5_250; have g_c1_206 := i_rg c1_206; have g_c1_228 := i_rg c1_228; have g_c1_250 := i_rg c1_250; omega) | (have e0 : (0 : Int32).toInt = 0 := (by decide); have q_f_16 := Hide.out f_16; have q_f_25 := Hide.out f_25; have q_f2_250 := Hide.out f2_250; have q_f3_250 := Hide.out f3_250; have q_kq_251 := Hide.out kq_251; have q_wb_252 := Hide.out wb_252; have q_f2_228 := Hide.out f2_228; have q_f3_228 := Hide.out f3_228; have q_kq_229 := Hide.out kq_229; have q_wb_230 := Hide.out wb_230; have q_f1_250 := Hide.out f1_250; have q_f4_250 := Hide.out f4_250; have q_f5_250 := Hide.out f5_250; have q_f2_206 := Hide.out f2_206; have q_f3_206 := Hide.out f3_206; have q_kq_207 := Hide.out kq_207; have q_wb_208 := Hide.out wb_208; have q_f1_228 := Hide.out f1_228; have q_f4_228 := Hide.out f4_228; have q_f5_228 := Hide.out f5_228; have g_c1_185 := i_rg c1_185; have g_c1_206 := i_rg c1_206; have g_c1_228 := i_rg c1_228; have g_c1_250 := i_rg c1_250; omega) | (have e0 : (0 : Int32).toInt = 0 := (by decide); have q_f_16 := Hide.out f_16; have q_f_25 := Hide.out f_25; have q_f2_250 := Hide.out f2_250; have q_f3_250 := Hide.out f3_250; have q_kq_251 := Hide.out kq_251; have q_wb_252 := Hide.out wb_252; have q_f2_228 := Hide.out f2_228; have q_f3_228 := Hide.out f3_228; have q_kq_229 := Hide.out kq_229; have q_wb_230 := Hide.out wb_230; have q_f1_250 := Hide.out f1_250; have q_f4_250 := Hide.out f4_250; have q_f5_250 := Hide.out f5_250; have q_f2_206 := Hide.out f2_206; have q_f3_206 := Hide.out f3_206; have q_kq_207 := Hide.out kq_207; have q_wb_208 := Hide.out wb_208; have q_f1_228 := Hide.out f1_228; have q_f4_228 := Hide.out f4_228; have q_f5_228 := Hide.out f5_228; have q_f2_185 := Hide.out f2_185; have q_f3_185 := Hide.out f3_185; have q_wb_186 := Hide.out wb_186; have q_f1_206 := Hide.out f1_206; have q_f4_206 := Hide.out f4_206; have q_f5_206 := Hide.out f5_206; have g_c1_185 := i_rg c1_185; have g_c1_206 := i_rg c1_206; have g_c1_228 := i_rg c1_228; have g_c1_250 := i_rg c1_250; omega)))) (gP_of hD hk_250 (fun q90 e90 => by cases e90; exact (by first | (have e0 : (0 : Int32).toInt = 0 := (by decide); have q_f_16 := Hide.out f_16; have q_f_25 := Hide.out f_25; have q_f2_250 := Hide.out f2_250; have q_f3_250 := Hide.out f3_250; have q_kq_251 := Hide.out kq_251; have q_wb_252 := Hide.out wb_252; have g_c1_228 := i_rg c1_228; have g_c1_250 := i_rg c1_250; omega) | (have e0 : (0 : Int32).toInt = 0 := (by decide); have q_f_16 := Hide.out f_16; have q_f_25 := Hide.out f_25; have q_f2_250 := Hide.out f2_250; have q_f3_250 := Hide.out f3_250; have q_kq_251 := Hide.out kq_251; have q_wb_252 := Hide.out wb_252; have q_f2_228 := Hide.out f2_228; have q_f3_228 := Hide.out f3_228; have q_kq_229 := Hide.out kq_229; have q_wb_230 := Hide.out wb_230; have q_f1_250 := Hide.out f1_250; have q_f4_250 := Hide.out f4_250; have q_f5_250 := Hide.out f5_250; have g_c1_206 := i_rg c1_206; have g_c1_228 := i_rg c1_228; have g_c1_250 := i_rg c1_250; omega) | (have e0 : (0 : Int32).toInt = 0 := (by decide); have q_f_16 := Hide.out f_16; have q_f_25 := Hide.out f_25; have q_f2_250 := Hide.out f2_250; have q_f3_250 := Hide.out f3_250; have q_kq_251 := Hide.out kq_251; have q_wb_252 := Hide.out wb_252; have q_f2_228 := Hide.out f2_228; have q_f3_228 := Hide.out f3_228; have q_kq_229 := Hide.out kq_229; have q_wb_230 := Hide.out wb_230; have q_f1_250 := Hide.out f1_250; have q_f4_250 := Hide.out f4_250; have q_f5_250 := Hide.out f5_250; have q_f2_206 := Hide.out f2_206; have q_f3_206 := Hide.out f3_206; have q_kq_207 := Hide.out kq_207; have q_wb_208 := Hide.out wb_208; have q_f1_228 := Hide.out f1_228; have q_f4_228 := Hide.out f4_228; have q_f5_228 := Hide.out f5_228; have g_c1_185 := i_rg c1_185; have g_c1_206 := i_rg c1_206; have g_c1_228 := i_rg c1_228; have g_c1_250 := i_rg c1_250; omega) | (have e0 : (0 : Int32).toInt = 0 := (by decide); have q_f_16 := Hide.out f_16; have q_f_25 := Hide.out f_25; have q_f2_250 := Hide.out f2_250; have q_f3_250 := Hide.out f3_250; have q_kq_251 := Hide.out kq_251; have q_wb_252 := Hide.out wb_252; have q_f2_228 := Hide.out f2_228; have q_f3_228 := Hide.out f3_228; have q_kq_229 := Hide.out kq_229; have q_wb_230 := Hide.out wb_230; have q_f1_250 := Hide.out f1_250; have q_f4_250 := Hide.out f4_250; have q_f5_250 := Hide.out f5_250; have q_f2_206 := Hide.out f2_206; have q_f3_206 := Hide.out f3_206; have q_kq_207 := Hide.out kq_207; have q_wb_208 := Hide.out wb_208; have q_f1_228 := Hide.out f1_228; have q_f4_228 := Hide.out f4_228; have q_f5_228 := Hide.out f5_228; have q_f2_185 := Hide.out f2_185; have q_f3_185 := Hide.out f3_185; have q_wb_186 := Hide.out wb_186; have q_f1_206 := Hide.out f1_206; have q_f4_206 := Hide.out f4_206; have q_f5_206 := Hide.out f5_206; have g_c1_185 := i_rg c1_185; have g_c1_206 := i_rg c1_206; have g_c1_228 := i_rg c1_228; have g_c1_250 := i_rg c1_250; omega))))) (cwV 1 hts (gd_V kw_96 kw_17 kw_18 kw_3 kw_16) rfl rfl rfl (by decide +kernel) ⟨Nat.le_of_ble_eq_true rfl, Nat.le_of_ble_eq_true rfl⟩) ⟨gblindH, va_recv hK hP (ci := 0) (q0 := k_24) rfl hk_250, fun U hU hW9 => gmkH hU hW9 hP hK hD hex hE hS hFc⟩ rfl rfl hl.1 rfl (lv_room (Nat.le_of_ble_eq_true rfl)) dX11_begin_129 ⟨(show 0 + dc_88 + dc_108 + dc_134 + dc_154 + dc_180 + dc_192 + dc_214 + dc_236 + (PC ws_233 + (0)) ≤ PC ws + (0) from (by have e0 : (0 : Int32).toInt = 0 := (by decide); have q_f_16 := Hide.out f_16; have q_f_25 := Hide.out f_25; omega)), (show 0 + ds_89 + ds_109 + ds_135 + ds_155 + ds_181 + ds_193 + ds_215 + ds_237 + (PS ws_233 + (0)) ≤ PS ws + (0) from (by have e0 : (0 : Int32).toInt = 0 := (by decide); have q_f_16 := Hide.out f_16; have q_f_25 := Hide.out f_25; omega))⟩) hS (fun q _ h => hFc q h) hFc (fun  ws_255 t9 H1 locs ht9 hvm9 hw9 hB9 hz9 hk9 hS => ?_)
  obtain ⟨E_256, Fr_257, hG, hP1, hD1, dc_258, ds_259, hLd, hdc_258, hds_259⟩ := hB9
  rw [ht9] at hLd
  refine W_tight (hL0.tr hLd).1 (hL0.tr hLd).2.1 ?_
  clear hL0 hLd
  have hP : va_P (gD g) cl0 ws_255 H1 := by rw [← ht9]; exact hP1
  have hD : va_D A ws_255 := hD1.weaken (fun _ _ _ h => hFc _ h)
  have kf_260 := hw9
  clear hP1 hD1 hz9 hk9 hvm9 ht9 hw9
  generalize H1 = H at hP hS ⊢
  have aa_261 := a_r3_249
  have aa_262 := a_r4_249
  have aa_263 := a_r10_1
  have aa_264 := a_r11_1
  have aa_265 := a_r12_1
  have aa_266 := a_r13_1
  have aa_267 := a_r16_249
  have aa_268 := a_r17_249
  have aa_269 := a_r0_250
  have o_h0 := E_256.1 _ _ o_h0
  have o_b1 := E_256.1 _ _ o_b1
  have tq_270 : wcP ws_255 h0 0 (((((((((0))))) + 2) + 2) + 2) + 2) (3) := wcP_1 hDW hG Fr_257 (by decide) (by decide) (by decide) (by decide) hkW rfl (fun k9 ci9 fs9 h9 c9 e9 => by have w9 := kf_260 _ _ _ h9 c9 e9; have w8 := Hide.out wb_252; omega) tq_248
  refine lv_aload_n hx hb dX11_begin_132 rfl (lv_at hl 1 rfl) ?_
  obtain ⟨fs9, hk_271, hq_271⟩ := ((gF.a (F' := [(0, 0), (0, 1)]) Fr_257 (fun _ h => h))) _ _ _ hk_249
  refine opn_X11 hG hk_271 (fun r0_271 r1_271 r2_271 r3_271 n3_271 r4_271 n4_271 c5_271 c6_271 v7_271 c8_271 c9_271 r10_271 n10_271 r11_271 n11_271 r12_271 n12_271 r13_271 n13_271 r14_271 v15_271 r16_271 n16_271 r17_271 n17_271 hf9 o_r0_271 o_r1_271 o_r2_271 a_r3_271 f4_271 a_r4_271 f6_271 hz_c6_271 o_v7_271 a_r10_271 f10_271 a_r11_271 f12_271 a_r12_271 f14_271 a_r13_271 f16_271 o_r14_271 o_v15_271 a_r16_271 f20_271 a_r17_271 f22_271 f23_271 f24_271 f25_271 f26_271 f27_271 f28_271 => ?_)
  subst hf9
  obtain rfl := fe_r (hq_271 0 (by decide))
  have o_r0_1 := o_r0_271
  obtain rfl := fe_r (hq_271 1 (by decide))
  have o_r1_1 := o_r1_271
  have hn9 := fe_qr (hq_271 7 (by decide))
  subst hn9
  have o_b1 := o_v7_271 _ rfl
  obtain rfl := fe_i (hq_271 9 (by decide))
  obtain rfl := fe_r (hq_271 10 (by decide))
  have hn9 := gI_n hD ((E_256).1 _ _ aa_263) a_r10_271
  subst hn9
  have a_r10_1 := a_r10_271
  obtain rfl := fe_r (hq_271 11 (by decide))
  have hn9 := gI_n hD ((E_256).1 _ _ aa_264) a_r11_271
  subst hn9
  have a_r11_1 := a_r11_271
  obtain rfl := fe_r (hq_271 12 (by decide))
  have hn9 := gI_n hD ((E_256).1 _ _ aa_265) a_r12_271
  subst hn9
  have a_r12_1 := a_r12_271
  obtain rfl := fe_r (hq_271 13 (by decide))
  have hn9 := gI_n hD ((E_256).1 _ _ aa_266) a_r13_271
  subst hn9
  have a_r13_1 := a_r13_271
  obtain rfl := fe_q (hq_271 15 (by decide))
  have o_v15_1 := o_v15_271
  refine va_get (D := gD g) (ci := 10) (v := .ref b1) (C := RX11) (T := TX11) (N := 18) hx hb hts inX11 hown hK hP k_1 hk_271 rfl 7 (by decide) (hts _ kw_86) (fun _ h9 => h9) rfl dX11_begin_133 ?_
  obtain ⟨fs9, hk_272, hq_272⟩ := ((gA.tr (gF.a (F' := [(0, 0), (0, 1), (10, 5), (10, 6)]) Fr_153 (fun _ h => h)) (gA.tr (gF.a (F' := [(0, 0), (0, 1), (10, 5), (10, 6)]) Fr_179 (fun _ h => h)) (gA.tr (gF.a (F' := [(0, 0), (0, 1), (10, 5), (10, 6)]) Fr_191 (by decide)) (gA.tr (gF.a (F' := [(0, 0), (0, 1), (10, 5), (10, 6)]) Fr_213 (by decide)) (gA.tr (gF.a (F' := [(0, 0), (0, 1), (10, 5), (10, 6)]) Fr_235 (by decide)) (gF.a (F' := [(0, 0), (0, 1), (10, 5), (10, 6)]) Fr_257 (by decide)))))))) _ _ _ hk_144
  refine opn_X10 hG hk_272 (fun r0_272 n0_272 c1_272 c2_272 c3_272 c4_272 r5_272 n5_272 r6_272 n6_272 r7_272 n7_272 c8_272 r9_272 n9_272 r10_272 n10_272 r11_272 n11_272 r12_272 n12_272 r13_272 n13_272 c14_272 c15_272 c16_272 c17_272 hf9 a_r0_272 f1_272 a_r5_272 f3_272 a_r6_272 f5_272 a_r7_272 f7_272 a_r9_272 f9_272 a_r10_272 f11_272 a_r11_272 f13_272 a_r12_272 f15_272 a_r13_272 f17_272 hz_c15_272 f19_272 f20_272 f21_272 f22_272 f23_272 f24_272 f25_272 f26_272 f27_272 f28_272 => ?_)
  subst hf9
  obtain rfl := fe_i (hq_272 2 (by decide))
  obtain rfl := fe_i (hq_272 3 (by decide))
  obtain rfl := fe_i (hq_272 4 (by decide))
  obtain rfl := fe_r (hq_272 5 (by decide))
  have hn9 := gI_n hD (((E_152.tr (E_178.tr (E_190.tr (E_212.tr (E_234.tr E_256)))))).1 _ _ aa_167) a_r5_272
  subst hn9
  have a_r5_98 := a_r5_272
  obtain rfl := fe_r (hq_272 6 (by decide))
  have hn9 := gI_n hD (((E_152.tr (E_178.tr (E_190.tr (E_212.tr (E_234.tr E_256)))))).1 _ _ aa_168) a_r6_272
  subst hn9
  have a_r6_98 := a_r6_272
  obtain rfl := fe_i (hq_272 8 (by decide))
  refine va_get (D := gD g) (ci := 9) (v := .int c4_98) (C := RX10) (T := TX10) (N := 18) hx hb hts inX10 hown hK hP k_98 hk_272 rfl 4 (by decide) (hts _ kw_124) (fun _ h9 => h9) rfl dX11_begin_136 ?_
  refine lv_iload_n hx hb dX11_begin_139 rfl (lv_at hl 3 rfl) ?_
  refine lv_iadd hx hb dX11_begin_140 ?_
  refine lv_topi (fun z_273 ez_273 => ?_)
  refine lv_istore (lv' := [(4, .int z_273), (3, .int r_176), (0, .ref h0), (1, .ref b1), (2, .int x2)]) hx hb dX11_begin_141 hl (by decide) rfl (fun ls hl => ?_)
  refine lv_aload_n hx hb dX11_begin_143 rfl (lv_at hl 2 rfl) ?_
  refine va_get (D := gD g) (ci := 10) (v := .ref r1_1) (C := RX11) (T := TX11) (N := 18) hx hb hts inX11 hown hK hP k_1 hk_271 rfl 1 (by decide) (hts _ kw_94) (fun _ h9 => h9) rfl dX11_begin_144 ?_
  refine lv_iload hx hb dX11_begin_147 (lv_at hl 0 rfl) ?_
  obtain ⟨fs9, hk_274, hq_274⟩ := ((gF.a (F' := [(0, 0), (0, 1)]) Fr_257 (fun _ h => h))) _ _ _ hk_250
  refine opn_X0 hG hk_274 (fun r0_274 n0_274 c1_274 hf9 a_r0_274 f1_274 f2_274 f3_274 f4_274 f5_274 => ?_)
  subst hf9
  have kq_275 := kf_260 _ _ _ hk_274 _ rfl
  replace kq_275 := hide kq_275
  have wb_276 : c1_274.toInt ≤ (((((((((0))))) + 2) + 2) + 2) + 2) := wcP_u1 hD hk_271 rfl hk_274 rfl tq_270
  replace wb_276 := hide wb_276
  have hkW := hk_271
  have hDW := hD
  have hFc := gfree hD hS hA
  have pg_277 := ge_10_17 hD hk_271 rfl a_r17_271
  have pg_278 := ge_0_0 hD hk_274 rfl a_r0_274
  refine W_led (fun hL0 => ?_)
  refine va_callv (va_runV (As := [.int z_273]) (rest := []) ⟨hx, hb, hml, hown, hts⟩ (m_X0_put2 l g H ws_255 r1_1 (z_273) (c1_274) hG o_r1_1 (gP_of hD hk_274 (fun q90 e90 => by cases e90; exact (by first | (have e0 : (0 : Int32).toInt = 0 := (by decide); have q_f_16 := Hide.out f_16; have q_f_25 := Hide.out f_25; have q_f2_274 := Hide.out f2_274; have q_f3_274 := Hide.out f3_274; have q_kq_275 := Hide.out kq_275; have q_wb_276 := Hide.out wb_276; have g_c1_250 := i_rg c1_250; have g_c1_274 := i_rg c1_274; omega) | (have e0 : (0 : Int32).toInt = 0 := (by decide); have q_f_16 := Hide.out f_16; have q_f_25 := Hide.out f_25; have q_f2_274 := Hide.out f2_274; have q_f3_274 := Hide.out f3_274; have q_kq_275 := Hide.out kq_275; have q_wb_276 := Hide.out wb_276; have q_f2_250 := Hide.out f2_250; have q_f3_250 := Hide.out f3_250; have q_kq_251 := Hide.out kq_251; have q_wb_252 := Hide.out wb_252; have q_f1_274 := Hide.out f1_274; have q_f4_274 := Hide.out f4_274; have q_f5_274 := Hide.out f5_274; have g_c1_228 := i_rg c1_228; have g_c1_250 := i_rg c1_250; have g_c1_274 := i_rg c1_274; omega) | (have e0 : (0 : Int32).toInt = 0 := (by decide); have q_f_16 := Hide.out f_16; have q_f_25 := Hide.out f_25; have q_f2_274 := Hide.out f2_274; have q_f3_274 := Hide.out f3_274; have q_kq_275 := Hide.out kq_275; have q_wb_276 := Hide.out wb_276; have q_f2_250 := Hide.out f2_250; have q_f3_250 := Hide.out f3_250; have q_kq_251 := Hide.out kq_251; have q_wb_252 := Hide.out wb_252; have q_f1_274 := Hide.out f1_274; have q_f4_274 := Hide.out f4_274; have q_f5_274 := Hide.out f5_274; have q_f2_228 := Hide.out f2_228; have q_f3_228 := Hide.out f3_228; have q_kq_229 := Hide.out kq_229; have q_wb_230 := Hide.out wb_230; have q_f1_250 := Hide.out f1_250; have q_f4_250 := Hide.out f4_250; have q_f5_250 := Hide.out f5_250; have g_c1_206 := i_rg c1_206; have g_c1_228 := i_rg c1_228; have g_c1_250 := i_rg c1_250; have g_c1_274 := i_rg c1_274; omega) | (have e0 : (0 : Int32).toInt = 0 := (by decide); have q_f_16 := Hide.out f_16; have q_f_25 := Hide.out f_25; have q_f2_274 := Hide.out f2_274; have q_f3_274 := Hide.out f3_274; have q_kq_275 := Hide.out kq_275; have q_wb_276 := Hide.out wb_276; have q_f2_250 := Hide.out f2_250; have q_f3_250 := Hide.out f3_250; have q_kq_251 := Hide.out kq_251; have q_wb_252 := Hide.out wb_252; have q_f1_274 := Hide.out f1_274; have q_f4_274 := Hide.out f4_274; have q_f5_274 := Hide.out f5_274; have q_f2_228 := Hide.out f2_228; have q_f3_228 := Hide.out f3_228; have q_kq_229 := Hide.out kq_229; have q_wb_230 := Hide.out wb_230; have q_f1_250 := Hide.out f1_250; have q_f4_250 := Hide.out f4_250; have q_f5_250 := Hide.out f5_250; have q_f2_206 := Hide.out f2_206; have q_f3_206 := Hide.out f3_206; have q_kq_207 := Hide.out kq_207; have q_wb_208 := Hide.out wb_208; have q_f1_228 := Hide.out f1_228; have q_f4_228 := Hide.out f4_228; have q_f5_228 := Hide.out f5_228; have g_c1_185 := i_rg c1_185; have g_c1_206 := i_rg c1_206; have g_c1_228 := i_rg c1_228; have g_c1_250 := i_rg c1_250; have g_c1_274 := i_rg c1_274; omega)))) (gP_of hD hk_274 (fun q90 e90 => by cases e90; exact (by first | (have e0 : (0 : Int32).toInt = 0 := (by decide); have q_f_16 := Hide.out f_16; have q_f_25 := Hide.out f_25; have q_f2_274 := Hide.out f2_274; have q_f3_274 := Hide.out f3_274; have q_kq_275 := Hide.out kq_275; have q_wb_276 := Hide.out wb_276; have g_c1_250 := i_rg c1_250; have g_c1_274 := i_rg c1_274; omega) | (have e0 : (0 : Int32).toInt = 0 := (by decide); have q_f_16 := Hide.out f_16; have q_f_25 := Hide.out f_25; have q_f2_274 := Hide.out f2_274; have q_f3_274 := Hide.out f3_274; have q_kq_275 := Hide.out kq_275; have q_wb_276 := Hide.out wb_276; have q_f2_250 := Hide.out f2_250; have q_f3_250 := Hide.out f3_250; have q_kq_251 := Hide.out kq_251; have q_wb_252 := Hide.out wb_252; have q_f1_274 := Hide.out f1_274; have q_f4_274 := Hide.out f4_274; have q_f5_274 := Hide.out f5_274; have g_c1_228 := i_rg c1_228; have g_c1_250 := i_rg c1_250; have g_c1_274 := i_rg c1_274; omega) | (have e0 : (0 : Int32).toInt = 0 := (by decide); have q_f_16 := Hide.out f_16; have q_f_25 := Hide.out f_25; have q_f2_274 := Hide.out f2_274; have q_f3_274 := Hide.out f3_274; have q_kq_275 := Hide.out kq_275; have q_wb_276 := Hide.out wb_276; have q_f2_250 := Hide.out f2_250; have q_f3_250 := Hide.out f3_250; have q_kq_251 := Hide.out kq_251; have q_wb_252 := Hide.out wb_252; have q_f1_274 := Hide.out f1_274; have q_f4_274 := Hide.out f4_274; have q_f5_274 := Hide.out f5_274; have q_f2_228 := Hide.out f2_228; have q_f3_228 := Hide.out f3_228; have q_kq_229 := Hide.out kq_229; have q_wb_230 := Hide.out wb_230; have q_f1_250 := Hide.out f1_250; have q_f4_250 := Hide.out f4_250; have q_f5_250 := Hide.out f5_250; have g_c1_206 := i_rg c1_206; have g_c1_228 := i_rg c1_228; have g_c1_250 := i_rg c1_250; have g_c1_274 := i_rg c1_274; omega) | (have e0 : (0 : Int32).toInt = 0 := (by decide); have q_f_16 := Hide.out f_16; have q_f_25 := Hide.out f_25; have q_f2_274 := Hide.out f2_274; have q_f3_274 := Hide.out f3_274; have q_kq_275 := Hide.out kq_275; have q_wb_276 := Hide.out wb_276; have q_f2_250 := Hide.out f2_250; have q_f3_250 := Hide.out f3_250; have q_kq_251 := Hide.out kq_251; have q_wb_252 := Hide.out wb_252; have q_f1_274 := Hide.out f1_274; have q_f4_274 := Hide.out f4_274; have q_f5_274 := Hide.out f5_274; have q_f2_228 := Hide.out f2_228; have q_f3_228 := Hide.out f3_228; have q_kq_229 := Hide.out kq_229; have q_wb_230 := Hide.out wb_230; have q_f1_250 := Hide.out f1_250; have q_f4_250 := Hide.out f4_250; have q_f5_250 := Hide.out f5_250; have q_f2_206 := Hide.out f2_206; have q_f3_206 := Hide.out f3_206; have q_kq_207 := Hide.out kq_207; have q_wb_208 := Hide.out wb_208; have q_f1_228 := Hide.out f1_228; have q_f4_228 := Hide.out f4_228; have q_f5_228 := Hide.out f5_228; have g_c1_185 := i_rg c1_185; have g_c1_206 := i_rg c1_206; have g_c1_228 := i_rg c1_228; have g_c1_250 := i_rg c1_250; have g_c1_274 := i_rg c1_274; omega))))) (cwV 1 hts (gd_V kw_96 kw_17 kw_18 kw_3 kw_16) rfl rfl rfl (by decide +kernel) ⟨Nat.le_of_ble_eq_true rfl, Nat.le_of_ble_eq_true rfl⟩) ⟨gblindH, va_recv hK hP (ci := 0) (q0 := k_24) rfl hk_274, fun U hU hW9 => gmkH hU hW9 hP hK hD hex hE hS hFc⟩ rfl rfl hl.1 rfl (lv_room (Nat.le_of_ble_eq_true rfl)) dX11_begin_149 ⟨(show 0 + dc_88 + dc_108 + dc_134 + dc_154 + dc_180 + dc_192 + dc_214 + dc_236 + dc_258 + (PC ws_255 + (0)) ≤ PC ws + (0) from (by have e0 : (0 : Int32).toInt = 0 := (by decide); have q_f_16 := Hide.out f_16; have q_f_25 := Hide.out f_25; omega)), (show 0 + ds_89 + ds_109 + ds_135 + ds_155 + ds_181 + ds_193 + ds_215 + ds_237 + ds_259 + (PS ws_255 + (0)) ≤ PS ws + (0) from (by have e0 : (0 : Int32).toInt = 0 := (by decide); have q_f_16 := Hide.out f_16; have q_f_25 := Hide.out f_25; omega))⟩) hS (fun q _ h => hFc q h) hFc (fun  ws_279 t9 H1 locs ht9 hvm9 hw9 hB9 hz9 hk9 hS => ?_)
  obtain ⟨E_280, Fr_281, hG, hP1, hD1, dc_282, ds_283, hLd, hdc_282, hds_283⟩ := hB9
  rw [ht9] at hLd
  refine W_tight (hL0.tr hLd).1 (hL0.tr hLd).2.1 ?_
  clear hL0 hLd
  have hP : va_P (gD g) cl0 ws_279 H1 := by rw [← ht9]; exact hP1
  have hD : va_D A ws_279 := hD1.weaken (fun _ _ _ h => hFc _ h)
  have kf_284 := hw9
  clear hP1 hD1 hz9 hk9 hvm9 ht9 hw9
  generalize H1 = H at hP hS ⊢
  have aa_285 := a_r3_271
  have aa_286 := a_r4_271
  have aa_287 := a_r10_1
  have aa_288 := a_r11_1
  have aa_289 := a_r12_1
  have aa_290 := a_r13_1
  have aa_291 := a_r16_271
  have aa_292 := a_r17_271
  have aa_293 := a_r0_272
  have aa_294 := a_r5_98
  have aa_295 := a_r6_98
  have aa_296 := a_r7_272
  have aa_297 := a_r9_272
  have aa_298 := a_r10_272
  have aa_299 := a_r11_272
  have aa_300 := a_r12_272
  have aa_301 := a_r13_272
  have aa_302 := a_r0_274
  have o_h0 := E_280.1 _ _ o_h0
  have o_b1 := E_280.1 _ _ o_b1
  have tq_303 : wcP ws_279 h0 0 ((((((((((0))))) + 2) + 2) + 2) + 2) + 2) (3) := wcP_1 hDW hG Fr_281 (by decide) (by decide) (by decide) (by decide) hkW rfl (fun k9 ci9 fs9 h9 c9 e9 => by have w9 := kf_284 _ _ _ h9 c9 e9; have w8 := Hide.out wb_276; omega) tq_270
  refine lv_iconst (v := 0) hx hb dX11_begin_152 (by decide) ?_
  refine lv_istore (lv' := [(5, .int 0), (4, .int z_273), (3, .int r_176), (0, .ref h0), (1, .ref b1), (2, .int x2)]) hx hb dX11_begin_153 hl (by decide) rfl (fun ls hl => ?_)
  have J_155 : ∀ (n9 : Nat) (v5_304 : Int32) (dc_155_1 : Nat) (ds_155_1 : Nat) (ws_307 : va_W) (H : Heap) (locs : List Loc) (ls : Array Slot), (2147483647 - v5_304.toInt).toNat = n9 → 0 ≤ v5_304.toInt → v5_304.toInt ≤ 24 → gE ws_279 ws_307 → gF [(0, 0), (0, 1), (10, 5), (10, 6)] [(0, 0), (6, 0), (10, 3), (10, 4), (10, 10), (10, 11)] none ws_279 ws_307 → Good g ws_307 → dc_155_1 + PC ws_307 ≤ PC ws + (0) → ds_155_1 + PS ws_307 ≤ PS ws + (0) → enP g ws_307 h0 → wcP ws_307 h0 0 (10 + 8 * v5_304.toInt) (103) → gN ws_307 h0 7 → va_P (gD g) cl0 ws_307 H → va_D A ws_307 → va_S A s.heap H locs → lv_has ls 7 [(0, .ref h0), (4, .int z_273), (5, .int v5_304)] → W p l e (headSpec (wt yX11_begin cX11_begin 7 none) ({ frames := 5, cells := PC ws + (0), slots := PS ws + (0), locals := 129 })).room s m ([.ref h0, .ref b1, .int x2] : List Value).toArray below meth c H locs (dc_155_1) (ds_155_1) (MQ below (va_Qv (fun (u9 : va_W) => (True) ∧ (gN u9 h0 7) ∧ (enP g u9 h0) ∧ (nlA9 u9 h0) ∧ (nlA10 u9 h0) ∧ (wcP u9 h0 0 (204) (103))) (gQ2 g [(0, 0), (0, 1), (10, 5), (10, 6), (10, 7), (10, 8), (10, 9)] [(0, 0), (6, 0), (10, 3), (10, 4), (10, 10), (10, 11), (10, 12), (10, 13)] none A ws s.heap (0) (0)) A) ([.ref h0, .ref b1, .int x2] : List Value).toArray s (PC ws + (0)) (PS ws + (0)) A) (F0 m 155 ls []) := by
    intro n9
    induction n9 using Nat.strongRecOn with
    | ind n9 ih_155 =>
      intro v5_304 dc_155_1 ds_155_1 ws_307 H locs ls hm9 iv_305 iv_306 E_308 Fr_309 hG hc9 hs9 jx_155_0 jx_155_1 jx_155_2 hP hD hS hl
      subst hm9
      replace iv_305 := hide iv_305
      replace iv_306 := hide iv_306
      have o_h0 := E_308.1 _ _ o_h0
      refine lv_iload hx hb dX11_begin_155 (lv_at hl 2 rfl) ?_
      refine lv_iload hx hb dX11_begin_157 (lv_at hl 1 rfl) ?_
      refine lv_icmp_ge (tgt := 293) hx hb dX11_begin_159 (by decide) (fun c_310 => ?_) (fun c_310 => ?_)
      · refine lv_aload_n hx hb dX11_begin_293 rfl (lv_at hl 0 rfl) ?_
        obtain ⟨fs9, hk_311, hq_311⟩ := ((gA.tr (gF.a (F' := [(0, 0), (0, 1), (10, 5), (10, 6)]) Fr_281 (by decide)) (gF.a (F' := [(0, 0), (0, 1), (10, 5), (10, 6)]) Fr_309 (fun _ h => h)))) _ _ _ hk_271
        refine opn_X11 hG hk_311 (fun r0_311 r1_311 r2_311 r3_311 n3_311 r4_311 n4_311 c5_311 c6_311 v7_311 c8_311 c9_311 r10_311 n10_311 r11_311 n11_311 r12_311 n12_311 r13_311 n13_311 r14_311 v15_311 r16_311 n16_311 r17_311 n17_311 hf9 o_r0_311 o_r1_311 o_r2_311 a_r3_311 f4_311 a_r4_311 f6_311 hz_c6_311 o_v7_311 a_r10_311 f10_311 a_r11_311 f12_311 a_r12_311 f14_311 a_r13_311 f16_311 o_r14_311 o_v15_311 a_r16_311 f20_311 a_r17_311 f22_311 f23_311 f24_311 f25_311 f26_311 f27_311 f28_311 => ?_)
        subst hf9
        obtain rfl := fe_r (hq_311 0 (by decide))
        have o_r0_1 := o_r0_311
        obtain rfl := fe_r (hq_311 1 (by decide))
        have o_r1_1 := o_r1_311
        have hn9 := fe_qr (hq_311 7 (by decide))
        subst hn9
        have o_b1 := o_v7_311 _ rfl
        obtain rfl := fe_i (hq_311 9 (by decide))
        obtain rfl := fe_r (hq_311 10 (by decide))
        have hn9 := gI_n hD (((E_280.tr E_308)).1 _ _ aa_287) a_r10_311
        subst hn9
        have a_r10_1 := a_r10_311
        obtain rfl := fe_r (hq_311 11 (by decide))
        have hn9 := gI_n hD (((E_280.tr E_308)).1 _ _ aa_288) a_r11_311
        subst hn9
        have a_r11_1 := a_r11_311
        obtain rfl := fe_r (hq_311 12 (by decide))
        have hn9 := gI_n hD (((E_280.tr E_308)).1 _ _ aa_289) a_r12_311
        subst hn9
        have a_r12_1 := a_r12_311
        obtain rfl := fe_r (hq_311 13 (by decide))
        have hn9 := gI_n hD (((E_280.tr E_308)).1 _ _ aa_290) a_r13_311
        subst hn9
        have a_r13_1 := a_r13_311
        obtain rfl := fe_q (hq_311 15 (by decide))
        have o_v15_1 := o_v15_311
        refine va_get (D := gD g) (ci := 10) (v := .ref r1_1) (C := RX11) (T := TX11) (N := 18) hx hb hts inX11 hown hK hP k_1 hk_311 rfl 1 (by decide) (hts _ kw_94) (fun _ h9 => h9) rfl dX11_begin_294 ?_
        refine lv_aload_n hx hb dX11_begin_297 rfl (lv_at hl 0 rfl) ?_
        refine va_get (D := gD g) (ci := 10) (v := .ref b1) (C := RX11) (T := TX11) (N := 18) hx hb hts inX11 hown hK hP k_1 hk_311 rfl 7 (by decide) (hts _ kw_86) (fun _ h9 => h9) rfl dX11_begin_298 ?_
        obtain ⟨fs9, hk_312, hq_312⟩ := ((gA.tr (gF.a (F' := [(0, 0), (0, 1), (10, 5), (10, 6)]) Fr_281 (by decide)) (gF.a (F' := [(0, 0), (0, 1), (10, 5), (10, 6)]) Fr_309 (fun _ h => h)))) _ _ _ hk_272
        refine opn_X10 hG hk_312 (fun r0_312 n0_312 c1_312 c2_312 c3_312 c4_312 r5_312 n5_312 r6_312 n6_312 r7_312 n7_312 c8_312 r9_312 n9_312 r10_312 n10_312 r11_312 n11_312 r12_312 n12_312 r13_312 n13_312 c14_312 c15_312 c16_312 c17_312 hf9 a_r0_312 f1_312 a_r5_312 f3_312 a_r6_312 f5_312 a_r7_312 f7_312 a_r9_312 f9_312 a_r10_312 f11_312 a_r11_312 f13_312 a_r12_312 f15_312 a_r13_312 f17_312 hz_c15_312 f19_312 f20_312 f21_312 f22_312 f23_312 f24_312 f25_312 f26_312 f27_312 f28_312 => ?_)
        subst hf9
        obtain rfl := fe_i (hq_312 2 (by decide))
        obtain rfl := fe_i (hq_312 3 (by decide))
        obtain rfl := fe_i (hq_312 4 (by decide))
        obtain rfl := fe_r (hq_312 5 (by decide))
        have hn9 := gI_n hD (((E_280.tr E_308)).1 _ _ aa_294) a_r5_312
        subst hn9
        have a_r5_98 := a_r5_312
        obtain rfl := fe_r (hq_312 6 (by decide))
        have hn9 := gI_n hD (((E_280.tr E_308)).1 _ _ aa_295) a_r6_312
        subst hn9
        have a_r6_98 := a_r6_312
        obtain rfl := fe_i (hq_312 8 (by decide))
        refine va_get (D := gD g) (ci := 9) (v := .int c8_98) (C := RX10) (T := TX10) (N := 18) hx hb hts inX10 hown hK hP k_98 hk_312 rfl 8 (by decide) (hts _ kw_130) (fun _ h9 => h9) rfl dX11_begin_301 ?_
        obtain ⟨fs9, hk_313, hq_313⟩ := ((gA.tr (gF.a (F' := [(0, 0), (0, 1), (10, 5), (10, 6)]) Fr_281 (by decide)) (gF.a (F' := [(0, 0), (0, 1), (10, 5), (10, 6)]) Fr_309 (fun _ h => h)))) _ _ _ hk_274
        refine opn_X0 hG hk_313 (fun r0_313 n0_313 c1_313 hf9 a_r0_313 f1_313 f2_313 f3_313 f4_313 f5_313 => ?_)
        subst hf9
        have wb_314 : c1_313.toInt ≤ (10 + 8 * v5_304.toInt) := wcP_u1 hD hk_311 rfl hk_313 rfl jx_155_1
        replace wb_314 := hide wb_314
        have hkW := hk_311
        have hDW := hD
        have hFc := gfree hD hS hA
        have pg_315 := ge_10_17 hD hk_311 rfl a_r17_311
        have pg_316 := ge_0_0 hD hk_313 rfl a_r0_313
        refine W_led (fun hL0 => ?_)
        refine va_callv (va_runV (As := [.int c8_98]) (rest := []) ⟨hx, hb, hml, hown, hts⟩ (m_X0_put2 l g H ws_307 r1_1 (c8_98) (c1_313) hG o_r1_1 (gP_of hD hk_313 (fun q90 e90 => by cases e90; exact (by first | (have e0 : (0 : Int32).toInt = 0 := (by decide); have q_f_16 := Hide.out f_16; have q_f_25 := Hide.out f_25; have q_f2_313 := Hide.out f2_313; have q_f3_313 := Hide.out f3_313; have q_wb_314 := Hide.out wb_314; have g_c1_313 := i_rg c1_313; have g_v5_304 := i_rg v5_304; omega) | (have e0 : (0 : Int32).toInt = 0 := (by decide); have q_f_16 := Hide.out f_16; have q_f_25 := Hide.out f_25; have q_f2_313 := Hide.out f2_313; have q_f3_313 := Hide.out f3_313; have q_wb_314 := Hide.out wb_314; have q_iv_305 := Hide.out iv_305; have q_iv_306 := Hide.out iv_306; have q_c_310 := i_le c_310; have q_f1_313 := Hide.out f1_313; have q_f4_313 := Hide.out f4_313; have q_f5_313 := Hide.out f5_313; have g_c1_313 := i_rg c1_313; have g_v5_304 := i_rg v5_304; have g_z_273 := i_rg z_273; omega) | (have e0 : (0 : Int32).toInt = 0 := (by decide); have q_f_16 := Hide.out f_16; have q_f_25 := Hide.out f_25; have q_f2_313 := Hide.out f2_313; have q_f3_313 := Hide.out f3_313; have q_wb_314 := Hide.out wb_314; have q_iv_305 := Hide.out iv_305; have q_iv_306 := Hide.out iv_306; have q_c_310 := i_le c_310; have q_f1_313 := Hide.out f1_313; have q_f4_313 := Hide.out f4_313; have q_f5_313 := Hide.out f5_313; obtain ⟨u_z_273, q_z_273⟩ := i_add ez_273; have g_c1_313 := i_rg c1_313; have g_c4_98 := i_rg c4_98; have g_v5_304 := i_rg v5_304; have g_x2 := i_rg x2; have g_z_273 := i_rg z_273; omega) | (have e0 : (0 : Int32).toInt = 0 := (by decide); have q_f_16 := Hide.out f_16; have q_f_25 := Hide.out f_25; have q_f2_313 := Hide.out f2_313; have q_f3_313 := Hide.out f3_313; have q_wb_314 := Hide.out wb_314; have q_iv_305 := Hide.out iv_305; have q_iv_306 := Hide.out iv_306; have q_c_310 := i_le c_310; have q_f1_313 := Hide.out f1_313; have q_f4_313 := Hide.out f4_313; have q_f5_313 := Hide.out f5_313; obtain ⟨u_z_273, q_z_273⟩ := i_add ez_273; have q_f19_98 := Hide.out f19_98; have g_c1_313 := i_rg c1_313; have g_c4_98 := i_rg c4_98; have g_v5_304 := i_rg v5_304; have g_x2 := i_rg x2; have g_z_273 := i_rg z_273; omega)))) (gP_of hD hk_313 (fun q90 e90 => by cases e90; exact (by first | (have e0 : (0 : Int32).toInt = 0 := (by decide); have q_f_16 := Hide.out f_16; have q_f_25 := Hide.out f_25; have q_f2_313 := Hide.out f2_313; have q_f3_313 := Hide.out f3_313; have q_wb_314 := Hide.out wb_314; have g_c1_313 := i_rg c1_313; have g_v5_304 := i_rg v5_304; omega) | (have e0 : (0 : Int32).toInt = 0 := (by decide); have q_f_16 := Hide.out f_16; have q_f_25 := Hide.out f_25; have q_f2_313 := Hide.out f2_313; have q_f3_313 := Hide.out f3_313; have q_wb_314 := Hide.out wb_314; have q_iv_305 := Hide.out iv_305; have q_iv_306 := Hide.out iv_306; have q_c_310 := i_le c_310; have q_f1_313 := Hide.out f1_313; have q_f4_313 := Hide.out f4_313; have q_f5_313 := Hide.out f5_313; have g_c1_313 := i_rg c1_313; have g_v5_304 := i_rg v5_304; have g_z_273 := i_rg z_273; omega) | (have e0 : (0 : Int32).toInt = 0 := (by decide); have q_f_16 := Hide.out f_16; have q_f_25 := Hide.out f_25; have q_f2_313 := Hide.out f2_313; have q_f3_313 := Hide.out f3_313; have q_wb_314 := Hide.out wb_314; have q_iv_305 := Hide.out iv_305; have q_iv_306 := Hide.out iv_306; have q_c_310 := i_le c_310; have q_f1_313 := Hide.out f1_313; have q_f4_313 := Hide.out f4_313; have q_f5_313 := Hide.out f5_313; obtain ⟨u_z_273, q_z_273⟩ := i_add ez_273; have g_c1_313 := i_rg c1_313; have g_c4_98 := i_rg c4_98; have g_v5_304 := i_rg v5_304; have g_x2 := i_rg x2; have g_z_273 := i_rg z_273; omega) | (have e0 : (0 : Int32).toInt = 0 := (by decide); have q_f_16 := Hide.out f_16; have q_f_25 := Hide.out f_25; have q_f2_313 := Hide.out f2_313; have q_f3_313 := Hide.out f3_313; have q_wb_314 := Hide.out wb_314; have q_iv_305 := Hide.out iv_305; have q_iv_306 := Hide.out iv_306; have q_c_310 := i_le c_310; have q_f1_313 := Hide.out f1_313; have q_f4_313 := Hide.out f4_313; have q_f5_313 := Hide.out f5_313; obtain ⟨u_z_273, q_z_273⟩ := i_add ez_273; have q_f19_98 := Hide.out f19_98; have g_c1_313 := i_rg c1_313; have g_c4_98 := i_rg c4_98; have g_v5_304 := i_rg v5_304; have g_x2 := i_rg x2; have g_z_273 := i_rg z_273; omega))))) (cwV 1 hts (gd_V kw_96 kw_17 kw_18 kw_3 kw_16) rfl rfl rfl (by decide +kernel) ⟨Nat.le_of_ble_eq_true rfl, Nat.le_of_ble_eq_true rfl⟩) ⟨gblindH, va_recv hK hP (ci := 0) (q0 := k_24) rfl hk_313, fun U hU hW9 => gmkH hU hW9 hP hK hD hex hE hS hFc⟩ rfl rfl hl.1 rfl (lv_room (Nat.le_of_ble_eq_true rfl)) dX11_begin_304 ⟨(show dc_155_1 + (PC ws_307 + (0)) ≤ PC ws + (0) from (by have e0 : (0 : Int32).toInt = 0 := (by decide); have q_f_16 := Hide.out f_16; have q_f_25 := Hide.out f_25; omega)), (show ds_155_1 + (PS ws_307 + (0)) ≤ PS ws + (0) from (by have e0 : (0 : Int32).toInt = 0 := (by decide); have q_f_16 := Hide.out f_16; have q_f_25 := Hide.out f_25; omega))⟩) hS (fun q _ h => hFc q h) hFc (fun  ws_317 t9 H1 locs ht9 hvm9 hw9 hB9 hz9 hk9 hS => ?_)
        obtain ⟨E_318, Fr_319, hG, hP1, hD1, dc_320, ds_321, hLd, hdc_320, hds_321⟩ := hB9
        rw [ht9] at hLd
        refine W_tight (hL0.tr hLd).1 (hL0.tr hLd).2.1 ?_
        clear hL0 hLd
        have hP : va_P (gD g) cl0 ws_317 H1 := by rw [← ht9]; exact hP1
        have hD : va_D A ws_317 := hD1.weaken (fun _ _ _ h => hFc _ h)
        have kf_322 := hw9
        clear hP1 hD1 hz9 hk9 hvm9 ht9 hw9
        generalize H1 = H at hP hS ⊢
        have aa_323 := a_r3_311
        have aa_324 := a_r4_311
        have aa_325 := a_r10_1
        have aa_326 := a_r11_1
        have aa_327 := a_r12_1
        have aa_328 := a_r13_1
        have aa_329 := a_r16_311
        have aa_330 := a_r17_311
        have aa_331 := a_r0_312
        have aa_332 := a_r5_98
        have aa_333 := a_r6_98
        have aa_334 := a_r7_312
        have aa_335 := a_r9_312
        have aa_336 := a_r10_312
        have aa_337 := a_r11_312
        have aa_338 := a_r12_312
        have aa_339 := a_r13_312
        have aa_340 := a_r0_313
        have o_h0 := E_318.1 _ _ o_h0
        have tq_341 : wcP ws_317 h0 0 ((10 + 8 * v5_304.toInt) + 2) (103) := wcP_1 hDW hG Fr_319 (by decide) (by decide) (by decide) (by decide) hkW rfl (fun k9 ci9 fs9 h9 c9 e9 => by have w9 := kf_322 _ _ _ h9 c9 e9; have w8 := Hide.out wb_314; omega) jx_155_1
        refine W_led (fun hLd => ?_)
        have hcl : dc_155_1 + dc_320 + PC ws_317 ≤ PC ws + (0) := (by have e0 : (0 : Int32).toInt = 0 := (by decide); have q_f_16 := Hide.out f_16; have q_f_25 := Hide.out f_25; omega)
        have hsl : ds_155_1 + ds_321 + PS ws_317 ≤ PS ws + (0) := (by have e0 : (0 : Int32).toInt = 0 := (by decide); have q_f_16 := Hide.out f_16; have q_f_25 := Hide.out f_25; omega)
        refine W.widen (k := PC ws + (0)) (n := PS ws + (0)) (by omega) (by omega) ?_
        obtain ⟨fs9, hk_342, hq_342⟩ := ((gF.a (F' := [(0, 0), (0, 1)]) Fr_319 (fun _ h => h))) _ _ _ hk_311
        refine opn_X11 hG hk_342 (fun r0_342 r1_342 r2_342 r3_342 n3_342 r4_342 n4_342 c5_342 c6_342 v7_342 c8_342 c9_342 r10_342 n10_342 r11_342 n11_342 r12_342 n12_342 r13_342 n13_342 r14_342 v15_342 r16_342 n16_342 r17_342 n17_342 hf9 o_r0_342 o_r1_342 o_r2_342 a_r3_342 f4_342 a_r4_342 f6_342 hz_c6_342 o_v7_342 a_r10_342 f10_342 a_r11_342 f12_342 a_r12_342 f14_342 a_r13_342 f16_342 o_r14_342 o_v15_342 a_r16_342 f20_342 a_r17_342 f22_342 f23_342 f24_342 f25_342 f26_342 f27_342 f28_342 => ?_)
        subst hf9
        obtain rfl := fe_r (hq_342 0 (by decide))
        have o_r0_1 := o_r0_342
        obtain rfl := fe_r (hq_342 1 (by decide))
        have o_r1_1 := o_r1_342
        have hn9 := fe_qr (hq_342 7 (by decide))
        subst hn9
        have o_b1 := o_v7_342 _ rfl
        obtain rfl := fe_i (hq_342 9 (by decide))
        obtain rfl := fe_r (hq_342 10 (by decide))
        have hn9 := gI_n hD ((E_318).1 _ _ aa_325) a_r10_342
        subst hn9
        have a_r10_1 := a_r10_342
        obtain rfl := fe_r (hq_342 11 (by decide))
        have hn9 := gI_n hD ((E_318).1 _ _ aa_326) a_r11_342
        subst hn9
        have a_r11_1 := a_r11_342
        obtain rfl := fe_r (hq_342 12 (by decide))
        have hn9 := gI_n hD ((E_318).1 _ _ aa_327) a_r12_342
        subst hn9
        have a_r12_1 := a_r12_342
        obtain rfl := fe_r (hq_342 13 (by decide))
        have hn9 := gI_n hD ((E_318).1 _ _ aa_328) a_r13_342
        subst hn9
        have a_r13_1 := a_r13_342
        obtain rfl := fe_q (hq_342 15 (by decide))
        have o_v15_1 := o_v15_342
        have tq_343 : enP g ws_317 h0 := enP_mo ((gF.mo (F' := [(0, 0), (0, 1)]) (C' := [(0, 0), (6, 0)]) (S' := none) Fr_319 (fun _ h => h) (fun _ h => h) (Or.inl rfl))) (by decide) (by decide) (by decide) jx_155_0
        have tq_344 : nlA9 ws_317 h0 := nlA9_mo ((gF.tr (gF.mo (F' := [(0, 0), (0, 1), (10, 5), (10, 6), (10, 8), (10, 9)]) (C' := [(0, 0), (6, 0), (10, 3), (10, 4), (10, 10), (10, 11), (10, 12), (10, 13)]) (S' := none) Fr_21 (by decide) (fun _ h => absurd h List.not_mem_nil) (Or.inl rfl)) (gF.tr (gF.mo (F' := [(0, 0), (0, 1), (10, 5), (10, 6), (10, 8), (10, 9)]) (C' := [(0, 0), (6, 0), (10, 3), (10, 4), (10, 10), (10, 11), (10, 12), (10, 13)]) (S' := none) Fr_30 (by decide) (fun _ h => absurd h List.not_mem_nil) (Or.inl rfl)) (gF.tr (gF.mo (F' := [(0, 0), (0, 1), (10, 5), (10, 6), (10, 8), (10, 9)]) (C' := [(0, 0), (6, 0), (10, 3), (10, 4), (10, 10), (10, 11), (10, 12), (10, 13)]) (S' := none) Fr_37 (by decide) (fun _ h => absurd h List.not_mem_nil) (Or.inl rfl)) (gF.tr (gF.mo (F' := [(0, 0), (0, 1), (10, 5), (10, 6), (10, 8), (10, 9)]) (C' := [(0, 0), (6, 0), (10, 3), (10, 4), (10, 10), (10, 11), (10, 12), (10, 13)]) (S' := none) Fr_45 (by decide) (fun _ h => absurd h List.not_mem_nil) (Or.inl rfl)) (gF.tr (gF.mo (F' := [(0, 0), (0, 1), (10, 5), (10, 6), (10, 8), (10, 9)]) (C' := [(0, 0), (6, 0), (10, 3), (10, 4), (10, 10), (10, 11), (10, 12), (10, 13)]) (S' := none) Fr_49 (fun _ h => absurd h List.not_mem_nil) (by decide) (Or.inr rfl)) (gF.tr (gF.mo (F' := [(0, 0), (0, 1), (10, 5), (10, 6), (10, 8), (10, 9)]) (C' := [(0, 0), (6, 0), (10, 3), (10, 4), (10, 10), (10, 11), (10, 12), (10, 13)]) (S' := none) Fr_66 (fun _ h => absurd h List.not_mem_nil) (by decide) (Or.inr rfl)) (gF.tr (gF.mo (F' := [(0, 0), (0, 1), (10, 5), (10, 6), (10, 8), (10, 9)]) (C' := [(0, 0), (6, 0), (10, 3), (10, 4), (10, 10), (10, 11), (10, 12), (10, 13)]) (S' := none) Fr_87 (by decide) (by decide) (Or.inr rfl)) (gF.tr (gF.mo (F' := [(0, 0), (0, 1), (10, 5), (10, 6), (10, 8), (10, 9)]) (C' := [(0, 0), (6, 0), (10, 3), (10, 4), (10, 10), (10, 11), (10, 12), (10, 13)]) (S' := none) Fr_96 (by decide) (fun _ h => absurd h List.not_mem_nil) (Or.inl rfl)) (gF.tr (gF.mo (F' := [(0, 0), (0, 1), (10, 5), (10, 6), (10, 8), (10, 9)]) (C' := [(0, 0), (6, 0), (10, 3), (10, 4), (10, 10), (10, 11), (10, 12), (10, 13)]) (S' := none) Fr_107 (by decide) (by decide) (Or.inr rfl)) (gF.tr (gF.mo (F' := [(0, 0), (0, 1), (10, 5), (10, 6), (10, 8), (10, 9)]) (C' := [(0, 0), (6, 0), (10, 3), (10, 4), (10, 10), (10, 11), (10, 12), (10, 13)]) (S' := none) Fr_133 (by decide) (by decide) (Or.inr rfl)) (gF.tr (gF.mo (F' := [(0, 0), (0, 1), (10, 5), (10, 6), (10, 8), (10, 9)]) (C' := [(0, 0), (6, 0), (10, 3), (10, 4), (10, 10), (10, 11), (10, 12), (10, 13)]) (S' := none) Fr_142 (by decide) (fun _ h => absurd h List.not_mem_nil) (Or.inl rfl)) (gF.tr (gF.mo (F' := [(0, 0), (0, 1), (10, 5), (10, 6), (10, 8), (10, 9)]) (C' := [(0, 0), (6, 0), (10, 3), (10, 4), (10, 10), (10, 11), (10, 12), (10, 13)]) (S' := none) Fr_153 (by decide) (by decide) (Or.inr rfl)) (gF.tr (gF.mo (F' := [(0, 0), (0, 1), (10, 5), (10, 6), (10, 8), (10, 9)]) (C' := [(0, 0), (6, 0), (10, 3), (10, 4), (10, 10), (10, 11), (10, 12), (10, 13)]) (S' := none) Fr_179 (by decide) (by decide) (Or.inr rfl)) (gF.tr (gF.mo (F' := [(0, 0), (0, 1), (10, 5), (10, 6), (10, 8), (10, 9)]) (C' := [(0, 0), (6, 0), (10, 3), (10, 4), (10, 10), (10, 11), (10, 12), (10, 13)]) (S' := none) Fr_191 (by decide) (by decide) (Or.inl rfl)) (gF.tr (gF.mo (F' := [(0, 0), (0, 1), (10, 5), (10, 6), (10, 8), (10, 9)]) (C' := [(0, 0), (6, 0), (10, 3), (10, 4), (10, 10), (10, 11), (10, 12), (10, 13)]) (S' := none) Fr_213 (by decide) (by decide) (Or.inl rfl)) (gF.tr (gF.mo (F' := [(0, 0), (0, 1), (10, 5), (10, 6), (10, 8), (10, 9)]) (C' := [(0, 0), (6, 0), (10, 3), (10, 4), (10, 10), (10, 11), (10, 12), (10, 13)]) (S' := none) Fr_235 (by decide) (by decide) (Or.inl rfl)) (gF.tr (gF.mo (F' := [(0, 0), (0, 1), (10, 5), (10, 6), (10, 8), (10, 9)]) (C' := [(0, 0), (6, 0), (10, 3), (10, 4), (10, 10), (10, 11), (10, 12), (10, 13)]) (S' := none) Fr_257 (by decide) (by decide) (Or.inl rfl)) (gF.tr (gF.mo (F' := [(0, 0), (0, 1), (10, 5), (10, 6), (10, 8), (10, 9)]) (C' := [(0, 0), (6, 0), (10, 3), (10, 4), (10, 10), (10, 11), (10, 12), (10, 13)]) (S' := none) Fr_281 (by decide) (by decide) (Or.inl rfl)) (gF.tr (gF.mo (F' := [(0, 0), (0, 1), (10, 5), (10, 6), (10, 8), (10, 9)]) (C' := [(0, 0), (6, 0), (10, 3), (10, 4), (10, 10), (10, 11), (10, 12), (10, 13)]) (S' := none) Fr_309 (by decide) (by decide) (Or.inr rfl)) (gF.mo (F' := [(0, 0), (0, 1), (10, 5), (10, 6), (10, 8), (10, 9)]) (C' := [(0, 0), (6, 0), (10, 3), (10, 4), (10, 10), (10, 11), (10, 12), (10, 13)]) (S' := none) Fr_319 (by decide) (by decide) (Or.inl rfl)))))))))))))))))))))) (by decide) (by decide) (by decide) (by decide) (by decide) tq_10
        have tq_345 : nlA10 ws_317 h0 := nlA10_mo ((gF.tr (gF.mo (F' := [(0, 0), (0, 1), (10, 5), (10, 6), (10, 8), (10, 9)]) (C' := [(0, 0), (6, 0), (10, 3), (10, 4), (10, 10), (10, 11), (10, 12), (10, 13)]) (S' := none) Fr_21 (by decide) (fun _ h => absurd h List.not_mem_nil) (Or.inl rfl)) (gF.tr (gF.mo (F' := [(0, 0), (0, 1), (10, 5), (10, 6), (10, 8), (10, 9)]) (C' := [(0, 0), (6, 0), (10, 3), (10, 4), (10, 10), (10, 11), (10, 12), (10, 13)]) (S' := none) Fr_30 (by decide) (fun _ h => absurd h List.not_mem_nil) (Or.inl rfl)) (gF.tr (gF.mo (F' := [(0, 0), (0, 1), (10, 5), (10, 6), (10, 8), (10, 9)]) (C' := [(0, 0), (6, 0), (10, 3), (10, 4), (10, 10), (10, 11), (10, 12), (10, 13)]) (S' := none) Fr_37 (by decide) (fun _ h => absurd h List.not_mem_nil) (Or.inl rfl)) (gF.tr (gF.mo (F' := [(0, 0), (0, 1), (10, 5), (10, 6), (10, 8), (10, 9)]) (C' := [(0, 0), (6, 0), (10, 3), (10, 4), (10, 10), (10, 11), (10, 12), (10, 13)]) (S' := none) Fr_45 (by decide) (fun _ h => absurd h List.not_mem_nil) (Or.inl rfl)) (gF.tr (gF.mo (F' := [(0, 0), (0, 1), (10, 5), (10, 6), (10, 8), (10, 9)]) (C' := [(0, 0), (6, 0), (10, 3), (10, 4), (10, 10), (10, 11), (10, 12), (10, 13)]) (S' := none) Fr_49 (fun _ h => absurd h List.not_mem_nil) (by decide) (Or.inr rfl)) (gF.tr (gF.mo (F' := [(0, 0), (0, 1), (10, 5), (10, 6), (10, 8), (10, 9)]) (C' := [(0, 0), (6, 0), (10, 3), (10, 4), (10, 10), (10, 11), (10, 12), (10, 13)]) (S' := none) Fr_66 (fun _ h => absurd h List.not_mem_nil) (by decide) (Or.inr rfl)) (gF.tr (gF.mo (F' := [(0, 0), (0, 1), (10, 5), (10, 6), (10, 8), (10, 9)]) (C' := [(0, 0), (6, 0), (10, 3), (10, 4), (10, 10), (10, 11), (10, 12), (10, 13)]) (S' := none) Fr_87 (by decide) (by decide) (Or.inr rfl)) (gF.tr (gF.mo (F' := [(0, 0), (0, 1), (10, 5), (10, 6), (10, 8), (10, 9)]) (C' := [(0, 0), (6, 0), (10, 3), (10, 4), (10, 10), (10, 11), (10, 12), (10, 13)]) (S' := none) Fr_96 (by decide) (fun _ h => absurd h List.not_mem_nil) (Or.inl rfl)) (gF.tr (gF.mo (F' := [(0, 0), (0, 1), (10, 5), (10, 6), (10, 8), (10, 9)]) (C' := [(0, 0), (6, 0), (10, 3), (10, 4), (10, 10), (10, 11), (10, 12), (10, 13)]) (S' := none) Fr_107 (by decide) (by decide) (Or.inr rfl)) (gF.tr (gF.mo (F' := [(0, 0), (0, 1), (10, 5), (10, 6), (10, 8), (10, 9)]) (C' := [(0, 0), (6, 0), (10, 3), (10, 4), (10, 10), (10, 11), (10, 12), (10, 13)]) (S' := none) Fr_133 (by decide) (by decide) (Or.inr rfl)) (gF.tr (gF.mo (F' := [(0, 0), (0, 1), (10, 5), (10, 6), (10, 8), (10, 9)]) (C' := [(0, 0), (6, 0), (10, 3), (10, 4), (10, 10), (10, 11), (10, 12), (10, 13)]) (S' := none) Fr_142 (by decide) (fun _ h => absurd h List.not_mem_nil) (Or.inl rfl)) (gF.tr (gF.mo (F' := [(0, 0), (0, 1), (10, 5), (10, 6), (10, 8), (10, 9)]) (C' := [(0, 0), (6, 0), (10, 3), (10, 4), (10, 10), (10, 11), (10, 12), (10, 13)]) (S' := none) Fr_153 (by decide) (by decide) (Or.inr rfl)) (gF.tr (gF.mo (F' := [(0, 0), (0, 1), (10, 5), (10, 6), (10, 8), (10, 9)]) (C' := [(0, 0), (6, 0), (10, 3), (10, 4), (10, 10), (10, 11), (10, 12), (10, 13)]) (S' := none) Fr_179 (by decide) (by decide) (Or.inr rfl)) (gF.tr (gF.mo (F' := [(0, 0), (0, 1), (10, 5), (10, 6), (10, 8), (10, 9)]) (C' := [(0, 0), (6, 0), (10, 3), (10, 4), (10, 10), (10, 11), (10, 12), (10, 13)]) (S' := none) Fr_191 (by decide) (by decide) (Or.inl rfl)) (gF.tr (gF.mo (F' := [(0, 0), (0, 1), (10, 5), (10, 6), (10, 8), (10, 9)]) (C' := [(0, 0), (6, 0), (10, 3), (10, 4), (10, 10), (10, 11), (10, 12), (10, 13)]) (S' := none) Fr_213 (by decide) (by decide) (Or.inl rfl)) (gF.tr (gF.mo (F' := [(0, 0), (0, 1), (10, 5), (10, 6), (10, 8), (10, 9)]) (C' := [(0, 0), (6, 0), (10, 3), (10, 4), (10, 10), (10, 11), (10, 12), (10, 13)]) (S' := none) Fr_235 (by decide) (by decide) (Or.inl rfl)) (gF.tr (gF.mo (F' := [(0, 0), (0, 1), (10, 5), (10, 6), (10, 8), (10, 9)]) (C' := [(0, 0), (6, 0), (10, 3), (10, 4), (10, 10), (10, 11), (10, 12), (10, 13)]) (S' := none) Fr_257 (by decide) (by decide) (Or.inl rfl)) (gF.tr (gF.mo (F' := [(0, 0), (0, 1), (10, 5), (10, 6), (10, 8), (10, 9)]) (C' := [(0, 0), (6, 0), (10, 3), (10, 4), (10, 10), (10, 11), (10, 12), (10, 13)]) (S' := none) Fr_281 (by decide) (by decide) (Or.inl rfl)) (gF.tr (gF.mo (F' := [(0, 0), (0, 1), (10, 5), (10, 6), (10, 8), (10, 9)]) (C' := [(0, 0), (6, 0), (10, 3), (10, 4), (10, 10), (10, 11), (10, 12), (10, 13)]) (S' := none) Fr_309 (by decide) (by decide) (Or.inr rfl)) (gF.mo (F' := [(0, 0), (0, 1), (10, 5), (10, 6), (10, 8), (10, 9)]) (C' := [(0, 0), (6, 0), (10, 3), (10, 4), (10, 10), (10, 11), (10, 12), (10, 13)]) (S' := none) Fr_319 (by decide) (by decide) (Or.inl rfl)))))))))))))))))))))) (by decide) (by decide) (by decide) (by decide) (by decide) tq_11
        have tq_346 : wcP ws_317 h0 0 (204) (103) := wcP_le (by have e0 : (0 : Int32).toInt = 0 := (by decide); have q_f_16 := Hide.out f_16; have q_f_25 := Hide.out f_25; have e09 : (0 : Int32).toInt = 0 := rfl; omega) (by first | (have e0 : (0 : Int32).toInt = 0 := (by decide); have e204 : (204 : Int32).toInt = 204 := (by decide); have q_f_16 := Hide.out f_16; have q_f_25 := Hide.out f_25; have q_iv_305 := Hide.out iv_305; have q_iv_306 := Hide.out iv_306; have q_c_310 := i_le c_310; have q_wb_314 := Hide.out wb_314; have g_c1_313 := i_rg c1_313; have g_v5_304 := i_rg v5_304; have g_z_273 := i_rg z_273; have e09 : (0 : Int32).toInt = 0 := rfl; omega) | (have e0 : (0 : Int32).toInt = 0 := (by decide); have e204 : (204 : Int32).toInt = 204 := (by decide); have q_f_16 := Hide.out f_16; have q_f_25 := Hide.out f_25; have q_iv_305 := Hide.out iv_305; have q_iv_306 := Hide.out iv_306; have q_c_310 := i_le c_310; have q_wb_314 := Hide.out wb_314; obtain ⟨u_z_273, q_z_273⟩ := i_add ez_273; have q_f2_313 := Hide.out f2_313; have q_f3_313 := Hide.out f3_313; have g_c1_313 := i_rg c1_313; have g_c4_98 := i_rg c4_98; have g_v5_304 := i_rg v5_304; have g_x2 := i_rg x2; have g_z_273 := i_rg z_273; have e09 : (0 : Int32).toInt = 0 := rfl; omega) | (have e0 : (0 : Int32).toInt = 0 := (by decide); have e204 : (204 : Int32).toInt = 204 := (by decide); have q_f_16 := Hide.out f_16; have q_f_25 := Hide.out f_25; have q_iv_305 := Hide.out iv_305; have q_iv_306 := Hide.out iv_306; have q_c_310 := i_le c_310; have q_wb_314 := Hide.out wb_314; obtain ⟨u_z_273, q_z_273⟩ := i_add ez_273; have q_f2_313 := Hide.out f2_313; have q_f3_313 := Hide.out f3_313; have q_f19_98 := Hide.out f19_98; have q_f1_313 := Hide.out f1_313; have q_f4_313 := Hide.out f4_313; have q_f5_313 := Hide.out f5_313; have g_c1_313 := i_rg c1_313; have g_c4_98 := i_rg c4_98; have g_v5_304 := i_rg v5_304; have g_x2 := i_rg x2; have g_z_273 := i_rg z_273; have e09 : (0 : Int32).toInt = 0 := rfl; omega) | (have e0 : (0 : Int32).toInt = 0 := (by decide); have e204 : (204 : Int32).toInt = 204 := (by decide); have q_f_16 := Hide.out f_16; have q_f_25 := Hide.out f_25; have q_iv_305 := Hide.out iv_305; have q_iv_306 := Hide.out iv_306; have q_c_310 := i_le c_310; have q_wb_314 := Hide.out wb_314; obtain ⟨u_z_273, q_z_273⟩ := i_add ez_273; have q_f2_313 := Hide.out f2_313; have q_f3_313 := Hide.out f3_313; have q_f19_98 := Hide.out f19_98; have q_f1_313 := Hide.out f1_313; have q_f4_313 := Hide.out f4_313; have q_f5_313 := Hide.out f5_313; have q_f3_98 := Hide.out f3_98; have q_f20_98 := Hide.out f20_98; have q_f21_98 := Hide.out f21_98; have q_f28_98 := Hide.out f28_98; have q_f21_144 := Hide.out f21_144; have q_f21_272 := Hide.out f21_272; have q_f21_312 := Hide.out f21_312; have g_c1_313 := i_rg c1_313; have g_c4_98 := i_rg c4_98; have g_v5_304 := i_rg v5_304; have g_x2 := i_rg x2; have g_z_273 := i_rg z_273; have e09 : (0 : Int32).toInt = 0 := rfl; omega)) (by have e0 : (0 : Int32).toInt = 0 := (by decide); have e103 : (103 : Int32).toInt = 103 := (by decide); have q_f_16 := Hide.out f_16; have q_f_25 := Hide.out f_25; have e09 : (0 : Int32).toInt = 0 := rfl; omega) tq_341
        exact W.vret hx hb hr (fun t9 ht9 hW9 => ⟨⟨ws_317, rfl, ⟨trivial, (gN_of hD hk_342 (j := 7) rfl), tq_343, tq_344, tq_345, tq_346⟩, ⟨(E_4.tr (E_20.tr (E_29.tr (E_36.tr (E_44.tr (E_48.tr (E_65.tr (E_86.tr (E_95.tr (E_106.tr (E_132.tr (E_141.tr (E_152.tr (E_178.tr (E_190.tr (E_212.tr (E_234.tr (E_256.tr (E_280.tr (E_308.tr E_318)))))))))))))))))))), (gF.tr (gF.mo (F' := [(0, 0), (0, 1), (10, 5), (10, 6), (10, 7), (10, 8), (10, 9)]) (C' := [(0, 0), (6, 0), (10, 3), (10, 4), (10, 10), (10, 11), (10, 12), (10, 13)]) (S' := none) Fr_5 (by decide) (fun _ h => absurd h List.not_mem_nil) (Or.inl rfl)) (gF.tr (gF.mo (F' := [(0, 0), (0, 1), (10, 5), (10, 6), (10, 7), (10, 8), (10, 9)]) (C' := [(0, 0), (6, 0), (10, 3), (10, 4), (10, 10), (10, 11), (10, 12), (10, 13)]) (S' := none) Fr_21 (by decide) (fun _ h => absurd h List.not_mem_nil) (Or.inl rfl)) (gF.tr (gF.mo (F' := [(0, 0), (0, 1), (10, 5), (10, 6), (10, 7), (10, 8), (10, 9)]) (C' := [(0, 0), (6, 0), (10, 3), (10, 4), (10, 10), (10, 11), (10, 12), (10, 13)]) (S' := none) Fr_30 (by decide) (fun _ h => absurd h List.not_mem_nil) (Or.inl rfl)) (gF.tr (gF.mo (F' := [(0, 0), (0, 1), (10, 5), (10, 6), (10, 7), (10, 8), (10, 9)]) (C' := [(0, 0), (6, 0), (10, 3), (10, 4), (10, 10), (10, 11), (10, 12), (10, 13)]) (S' := none) Fr_37 (by decide) (fun _ h => absurd h List.not_mem_nil) (Or.inl rfl)) (gF.tr (gF.mo (F' := [(0, 0), (0, 1), (10, 5), (10, 6), (10, 7), (10, 8), (10, 9)]) (C' := [(0, 0), (6, 0), (10, 3), (10, 4), (10, 10), (10, 11), (10, 12), (10, 13)]) (S' := none) Fr_45 (by decide) (fun _ h => absurd h List.not_mem_nil) (Or.inl rfl)) (gF.tr (gF.mo (F' := [(0, 0), (0, 1), (10, 5), (10, 6), (10, 7), (10, 8), (10, 9)]) (C' := [(0, 0), (6, 0), (10, 3), (10, 4), (10, 10), (10, 11), (10, 12), (10, 13)]) (S' := none) Fr_49 (fun _ h => absurd h List.not_mem_nil) (by decide) (Or.inr rfl)) (gF.tr (gF.mo (F' := [(0, 0), (0, 1), (10, 5), (10, 6), (10, 7), (10, 8), (10, 9)]) (C' := [(0, 0), (6, 0), (10, 3), (10, 4), (10, 10), (10, 11), (10, 12), (10, 13)]) (S' := none) Fr_66 (fun _ h => absurd h List.not_mem_nil) (by decide) (Or.inr rfl)) (gF.tr (gF.mo (F' := [(0, 0), (0, 1), (10, 5), (10, 6), (10, 7), (10, 8), (10, 9)]) (C' := [(0, 0), (6, 0), (10, 3), (10, 4), (10, 10), (10, 11), (10, 12), (10, 13)]) (S' := none) Fr_87 (by decide) (by decide) (Or.inr rfl)) (gF.tr (gF.mo (F' := [(0, 0), (0, 1), (10, 5), (10, 6), (10, 7), (10, 8), (10, 9)]) (C' := [(0, 0), (6, 0), (10, 3), (10, 4), (10, 10), (10, 11), (10, 12), (10, 13)]) (S' := none) Fr_96 (by decide) (fun _ h => absurd h List.not_mem_nil) (Or.inl rfl)) (gF.tr (gF.mo (F' := [(0, 0), (0, 1), (10, 5), (10, 6), (10, 7), (10, 8), (10, 9)]) (C' := [(0, 0), (6, 0), (10, 3), (10, 4), (10, 10), (10, 11), (10, 12), (10, 13)]) (S' := none) Fr_107 (by decide) (by decide) (Or.inr rfl)) (gF.tr (gF.mo (F' := [(0, 0), (0, 1), (10, 5), (10, 6), (10, 7), (10, 8), (10, 9)]) (C' := [(0, 0), (6, 0), (10, 3), (10, 4), (10, 10), (10, 11), (10, 12), (10, 13)]) (S' := none) Fr_133 (by decide) (by decide) (Or.inr rfl)) (gF.tr (gF.mo (F' := [(0, 0), (0, 1), (10, 5), (10, 6), (10, 7), (10, 8), (10, 9)]) (C' := [(0, 0), (6, 0), (10, 3), (10, 4), (10, 10), (10, 11), (10, 12), (10, 13)]) (S' := none) Fr_142 (by decide) (fun _ h => absurd h List.not_mem_nil) (Or.inl rfl)) (gF.tr (gF.mo (F' := [(0, 0), (0, 1), (10, 5), (10, 6), (10, 7), (10, 8), (10, 9)]) (C' := [(0, 0), (6, 0), (10, 3), (10, 4), (10, 10), (10, 11), (10, 12), (10, 13)]) (S' := none) Fr_153 (by decide) (by decide) (Or.inr rfl)) (gF.tr (gF.mo (F' := [(0, 0), (0, 1), (10, 5), (10, 6), (10, 7), (10, 8), (10, 9)]) (C' := [(0, 0), (6, 0), (10, 3), (10, 4), (10, 10), (10, 11), (10, 12), (10, 13)]) (S' := none) Fr_179 (by decide) (by decide) (Or.inr rfl)) (gF.tr (gF.mo (F' := [(0, 0), (0, 1), (10, 5), (10, 6), (10, 7), (10, 8), (10, 9)]) (C' := [(0, 0), (6, 0), (10, 3), (10, 4), (10, 10), (10, 11), (10, 12), (10, 13)]) (S' := none) Fr_191 (by decide) (by decide) (Or.inl rfl)) (gF.tr (gF.mo (F' := [(0, 0), (0, 1), (10, 5), (10, 6), (10, 7), (10, 8), (10, 9)]) (C' := [(0, 0), (6, 0), (10, 3), (10, 4), (10, 10), (10, 11), (10, 12), (10, 13)]) (S' := none) Fr_213 (by decide) (by decide) (Or.inl rfl)) (gF.tr (gF.mo (F' := [(0, 0), (0, 1), (10, 5), (10, 6), (10, 7), (10, 8), (10, 9)]) (C' := [(0, 0), (6, 0), (10, 3), (10, 4), (10, 10), (10, 11), (10, 12), (10, 13)]) (S' := none) Fr_235 (by decide) (by decide) (Or.inl rfl)) (gF.tr (gF.mo (F' := [(0, 0), (0, 1), (10, 5), (10, 6), (10, 7), (10, 8), (10, 9)]) (C' := [(0, 0), (6, 0), (10, 3), (10, 4), (10, 10), (10, 11), (10, 12), (10, 13)]) (S' := none) Fr_257 (by decide) (by decide) (Or.inl rfl)) (gF.tr (gF.mo (F' := [(0, 0), (0, 1), (10, 5), (10, 6), (10, 7), (10, 8), (10, 9)]) (C' := [(0, 0), (6, 0), (10, 3), (10, 4), (10, 10), (10, 11), (10, 12), (10, 13)]) (S' := none) Fr_281 (by decide) (by decide) (Or.inl rfl)) (gF.tr (gF.mo (F' := [(0, 0), (0, 1), (10, 5), (10, 6), (10, 7), (10, 8), (10, 9)]) (C' := [(0, 0), (6, 0), (10, 3), (10, 4), (10, 10), (10, 11), (10, 12), (10, 13)]) (S' := none) Fr_309 (by decide) (by decide) (Or.inr rfl)) (gF.mo (F' := [(0, 0), (0, 1), (10, 5), (10, 6), (10, 7), (10, 8), (10, 9)]) (C' := [(0, 0), (6, 0), (10, 3), (10, 4), (10, 10), (10, 11), (10, 12), (10, 13)]) (S' := none) Fr_319 (by decide) (by decide) (Or.inl rfl)))))))))))))))))))))), hG, by rw [ht9]; exact hP, hD, _, _, by rw [ht9]; exact hLd, hcl, hsl⟩⟩, hS.F ht9⟩) hS.2.2 dX11_begin_307
      · refine lv_iload hx hb dX11_begin_162 (lv_at hl 2 rfl) ?_
        refine lv_bipush (v := 24) hx hb dX11_begin_164 (by decide) ?_
        refine lv_icmp_ge (tgt := 293) hx hb dX11_begin_166 (by decide) (fun c_347 => ?_) (fun c_347 => ?_)
        · refine lv_aload_n hx hb dX11_begin_293 rfl (lv_at hl 0 rfl) ?_
          obtain ⟨fs9, hk_348, hq_348⟩ := ((gA.tr (gF.a (F' := [(0, 0), (0, 1), (10, 5), (10, 6)]) Fr_281 (by decide)) (gF.a (F' := [(0, 0), (0, 1), (10, 5), (10, 6)]) Fr_309 (fun _ h => h)))) _ _ _ hk_271
          refine opn_X11 hG hk_348 (fun r0_348 r1_348 r2_348 r3_348 n3_348 r4_348 n4_348 c5_348 c6_348 v7_348 c8_348 c9_348 r10_348 n10_348 r11_348 n11_348 r12_348 n12_348 r13_348 n13_348 r14_348 v15_348 r16_348 n16_348 r17_348 n17_348 hf9 o_r0_348 o_r1_348 o_r2_348 a_r3_348 f4_348 a_r4_348 f6_348 hz_c6_348 o_v7_348 a_r10_348 f10_348 a_r11_348 f12_348 a_r12_348 f14_348 a_r13_348 f16_348 o_r14_348 o_v15_348 a_r16_348 f20_348 a_r17_348 f22_348 f23_348 f24_348 f25_348 f26_348 f27_348 f28_348 => ?_)
          subst hf9
          obtain rfl := fe_r (hq_348 0 (by decide))
          have o_r0_1 := o_r0_348
          obtain rfl := fe_r (hq_348 1 (by decide))
          have o_r1_1 := o_r1_348
          have hn9 := fe_qr (hq_348 7 (by decide))
          subst hn9
          have o_b1 := o_v7_348 _ rfl
          obtain rfl := fe_i (hq_348 9 (by decide))
          obtain rfl := fe_r (hq_348 10 (by decide))
          have hn9 := gI_n hD (((E_280.tr E_308)).1 _ _ aa_287) a_r10_348
          subst hn9
          have a_r10_1 := a_r10_348
          obtain rfl := fe_r (hq_348 11 (by decide))
          have hn9 := gI_n hD (((E_280.tr E_308)).1 _ _ aa_288) a_r11_348
          subst hn9
          have a_r11_1 := a_r11_348
          obtain rfl := fe_r (hq_348 12 (by decide))
          have hn9 := gI_n hD (((E_280.tr E_308)).1 _ _ aa_289) a_r12_348
          subst hn9
          have a_r12_1 := a_r12_348
          obtain rfl := fe_r (hq_348 13 (by decide))
          have hn9 := gI_n hD (((E_280.tr E_308)).1 _ _ aa_290) a_r13_348
          subst hn9
          have a_r13_1 := a_r13_348
          obtain rfl := fe_q (hq_348 15 (by decide))
          have o_v15_1 := o_v15_348
          refine va_get (D := gD g) (ci := 10) (v := .ref r1_1) (C := RX11) (T := TX11) (N := 18) hx hb hts inX11 hown hK hP k_1 hk_348 rfl 1 (by decide) (hts _ kw_94) (fun _ h9 => h9) rfl dX11_begin_294 ?_
          refine lv_aload_n hx hb dX11_begin_297 rfl (lv_at hl 0 rfl) ?_
          refine va_get (D := gD g) (ci := 10) (v := .ref b1) (C := RX11) (T := TX11) (N := 18) hx hb hts inX11 hown hK hP k_1 hk_348 rfl 7 (by decide) (hts _ kw_86) (fun _ h9 => h9) rfl dX11_begin_298 ?_
          obtain ⟨fs9, hk_349, hq_349⟩ := ((gA.tr (gF.a (F' := [(0, 0), (0, 1), (10, 5), (10, 6)]) Fr_281 (by decide)) (gF.a (F' := [(0, 0), (0, 1), (10, 5), (10, 6)]) Fr_309 (fun _ h => h)))) _ _ _ hk_272
          refine opn_X10 hG hk_349 (fun r0_349 n0_349 c1_349 c2_349 c3_349 c4_349 r5_349 n5_349 r6_349 n6_349 r7_349 n7_349 c8_349 r9_349 n9_349 r10_349 n10_349 r11_349 n11_349 r12_349 n12_349 r13_349 n13_349 c14_349 c15_349 c16_349 c17_349 hf9 a_r0_349 f1_349 a_r5_349 f3_349 a_r6_349 f5_349 a_r7_349 f7_349 a_r9_349 f9_349 a_r10_349 f11_349 a_r11_349 f13_349 a_r12_349 f15_349 a_r13_349 f17_349 hz_c15_349 f19_349 f20_349 f21_349 f22_349 f23_349 f24_349 f25_349 f26_349 f27_349 f28_349 => ?_)
          subst hf9
          obtain rfl := fe_i (hq_349 2 (by decide))
          obtain rfl := fe_i (hq_349 3 (by decide))
          obtain rfl := fe_i (hq_349 4 (by decide))
          obtain rfl := fe_r (hq_349 5 (by decide))
          have hn9 := gI_n hD (((E_280.tr E_308)).1 _ _ aa_294) a_r5_349
          subst hn9
          have a_r5_98 := a_r5_349
          obtain rfl := fe_r (hq_349 6 (by decide))
          have hn9 := gI_n hD (((E_280.tr E_308)).1 _ _ aa_295) a_r6_349
          subst hn9
          have a_r6_98 := a_r6_349
          obtain rfl := fe_i (hq_349 8 (by decide))
          refine va_get (D := gD g) (ci := 9) (v := .int c8_98) (C := RX10) (T := TX10) (N := 18) hx hb hts inX10 hown hK hP k_98 hk_349 rfl 8 (by decide) (hts _ kw_130) (fun _ h9 => h9) rfl dX11_begin_301 ?_
          obtain ⟨fs9, hk_350, hq_350⟩ := ((gA.tr (gF.a (F' := [(0, 0), (0, 1), (10, 5), (10, 6)]) Fr_281 (by decide)) (gF.a (F' := [(0, 0), (0, 1), (10, 5), (10, 6)]) Fr_309 (fun _ h => h)))) _ _ _ hk_274
          refine opn_X0 hG hk_350 (fun r0_350 n0_350 c1_350 hf9 a_r0_350 f1_350 f2_350 f3_350 f4_350 f5_350 => ?_)
          subst hf9
          have wb_351 : c1_350.toInt ≤ (10 + 8 * v5_304.toInt) := wcP_u1 hD hk_348 rfl hk_350 rfl jx_155_1
          replace wb_351 := hide wb_351
          have hkW := hk_348
          have hDW := hD
          have hFc := gfree hD hS hA
          have pg_352 := ge_10_17 hD hk_348 rfl a_r17_348
          have pg_353 := ge_0_0 hD hk_350 rfl a_r0_350
          refine W_led (fun hL0 => ?_)
          refine va_callv (va_runV (As := [.int c8_98]) (rest := []) ⟨hx, hb, hml, hown, hts⟩ (m_X0_put2 l g H ws_307 r1_1 (c8_98) (c1_350) hG o_r1_1 (gP_of hD hk_350 (fun q90 e90 => by cases e90; exact (by first | (have e0 : (0 : Int32).toInt = 0 := (by decide); have q_f_16 := Hide.out f_16; have q_f_25 := Hide.out f_25; have q_f2_350 := Hide.out f2_350; have q_f3_350 := Hide.out f3_350; have q_wb_351 := Hide.out wb_351; have g_c1_350 := i_rg c1_350; have g_v5_304 := i_rg v5_304; omega) | (have e0 : (0 : Int32).toInt = 0 := (by decide); have e24 : (24 : Int32).toInt = 24 := (by decide); have q_f_16 := Hide.out f_16; have q_f_25 := Hide.out f_25; have q_f2_350 := Hide.out f2_350; have q_f3_350 := Hide.out f3_350; have q_wb_351 := Hide.out wb_351; have q_iv_305 := Hide.out iv_305; have q_iv_306 := Hide.out iv_306; have q_c_310 := i_nle c_310; have q_c_347 := i_le c_347; have q_f1_350 := Hide.out f1_350; have q_f4_350 := Hide.out f4_350; have q_f5_350 := Hide.out f5_350; have g_c1_350 := i_rg c1_350; have g_v5_304 := i_rg v5_304; have g_z_273 := i_rg z_273; omega) | (have e0 : (0 : Int32).toInt = 0 := (by decide); have e24 : (24 : Int32).toInt = 24 := (by decide); have q_f_16 := Hide.out f_16; have q_f_25 := Hide.out f_25; have q_f2_350 := Hide.out f2_350; have q_f3_350 := Hide.out f3_350; have q_wb_351 := Hide.out wb_351; have q_iv_305 := Hide.out iv_305; have q_iv_306 := Hide.out iv_306; have q_c_310 := i_nle c_310; have q_c_347 := i_le c_347; have q_f1_350 := Hide.out f1_350; have q_f4_350 := Hide.out f4_350; have q_f5_350 := Hide.out f5_350; obtain ⟨u_z_273, q_z_273⟩ := i_add ez_273; have g_c1_350 := i_rg c1_350; have g_c4_98 := i_rg c4_98; have g_v5_304 := i_rg v5_304; have g_x2 := i_rg x2; have g_z_273 := i_rg z_273; omega) | (have e0 : (0 : Int32).toInt = 0 := (by decide); have e24 : (24 : Int32).toInt = 24 := (by decide); have q_f_16 := Hide.out f_16; have q_f_25 := Hide.out f_25; have q_f2_350 := Hide.out f2_350; have q_f3_350 := Hide.out f3_350; have q_wb_351 := Hide.out wb_351; have q_iv_305 := Hide.out iv_305; have q_iv_306 := Hide.out iv_306; have q_c_310 := i_nle c_310; have q_c_347 := i_le c_347; have q_f1_350 := Hide.out f1_350; have q_f4_350 := Hide.out f4_350; have q_f5_350 := Hide.out f5_350; obtain ⟨u_z_273, q_z_273⟩ := i_add ez_273; have q_f19_98 := Hide.out f19_98; have g_c1_350 := i_rg c1_350; have g_c4_98 := i_rg c4_98; have g_v5_304 := i_rg v5_304; have g_x2 := i_rg x2; have g_z_273 := i_rg z_273; omega)))) (gP_of hD hk_350 (fun q90 e90 => by cases e90; exact (by first | (have e0 : (0 : Int32).toInt = 0 := (by decide); have q_f_16 := Hide.out f_16; have q_f_25 := Hide.out f_25; have q_f2_350 := Hide.out f2_350; have q_f3_350 := Hide.out f3_350; have q_wb_351 := Hide.out wb_351; have g_c1_350 := i_rg c1_350; have g_v5_304 := i_rg v5_304; omega) | (have e0 : (0 : Int32).toInt = 0 := (by decide); have e24 : (24 : Int32).toInt = 24 := (by decide); have q_f_16 := Hide.out f_16; have q_f_25 := Hide.out f_25; have q_f2_350 := Hide.out f2_350; have q_f3_350 := Hide.out f3_350; have q_wb_351 := Hide.out wb_351; have q_iv_305 := Hide.out iv_305; have q_iv_306 := Hide.out iv_306; have q_c_310 := i_nle c_310; have q_c_347 := i_le c_347; have q_f1_350 := Hide.out f1_350; have q_f4_350 := Hide.out f4_350; have q_f5_350 := Hide.out f5_350; have g_c1_350 := i_rg c1_350; have g_v5_304 := i_rg v5_304; have g_z_273 := i_rg z_273; omega) | (have e0 : (0 : Int32).toInt = 0 := (by decide); have e24 : (24 : Int32).toInt = 24 := (by decide); have q_f_16 := Hide.out f_16; have q_f_25 := Hide.out f_25; have q_f2_350 := Hide.out f2_350; have q_f3_350 := Hide.out f3_350; have q_wb_351 := Hide.out wb_351; have q_iv_305 := Hide.out iv_305; have q_iv_306 := Hide.out iv_306; have q_c_310 := i_nle c_310; have q_c_347 := i_le c_347; have q_f1_350 := Hide.out f1_350; have q_f4_350 := Hide.out f4_350; have q_f5_350 := Hide.out f5_350; obtain ⟨u_z_273, q_z_273⟩ := i_add ez_273; have g_c1_350 := i_rg c1_350; have g_c4_98 := i_rg c4_98; have g_v5_304 := i_rg v5_304; have g_x2 := i_rg x2; have g_z_273 := i_rg z_273; omega) | (have e0 : (0 : Int32).toInt = 0 := (by decide); have e24 : (24 : Int32).toInt = 24 := (by decide); have q_f_16 := Hide.out f_16; have q_f_25 := Hide.out f_25; have q_f2_350 := Hide.out f2_350; have q_f3_350 := Hide.out f3_350; have q_wb_351 := Hide.out wb_351; have q_iv_305 := Hide.out iv_305; have q_iv_306 := Hide.out iv_306; have q_c_310 := i_nle c_310; have q_c_347 := i_le c_347; have q_f1_350 := Hide.out f1_350; have q_f4_350 := Hide.out f4_350; have q_f5_350 := Hide.out f5_350; obtain ⟨u_z_273, q_z_273⟩ := i_add ez_273; have q_f19_98 := Hide.out f19_98; have g_c1_350 := i_rg c1_350; have g_c4_98 := i_rg c4_98; have g_v5_304 := i_rg v5_304; have g_x2 := i_rg x2; have g_z_273 := i_rg z_273; omega))))) (cwV 1 hts (gd_V kw_96 kw_17 kw_18 kw_3 kw_16) rfl rfl rfl (by decide +kernel) ⟨Nat.le_of_ble_eq_true rfl, Nat.le_of_ble_eq_true rfl⟩) ⟨gblindH, va_recv hK hP (ci := 0) (q0 := k_24) rfl hk_350, fun U hU hW9 => gmkH hU hW9 hP hK hD hex hE hS hFc⟩ rfl rfl hl.1 rfl (lv_room (Nat.le_of_ble_eq_true rfl)) dX11_begin_304 ⟨(show dc_155_1 + (PC ws_307 + (0)) ≤ PC ws + (0) from (by have e0 : (0 : Int32).toInt = 0 := (by decide); have q_f_16 := Hide.out f_16; have q_f_25 := Hide.out f_25; omega)), (show ds_155_1 + (PS ws_307 + (0)) ≤ PS ws + (0) from (by have e0 : (0 : Int32).toInt = 0 := (by decide); have q_f_16 := Hide.out f_16; have q_f_25 := Hide.out f_25; omega))⟩) hS (fun q _ h => hFc q h) hFc (fun  ws_354 t9 H1 locs ht9 hvm9 hw9 hB9 hz9 hk9 hS => ?_)
          obtain ⟨E_355, Fr_356, hG, hP1, hD1, dc_357, ds_358, hLd, hdc_357, hds_358⟩ := hB9
          rw [ht9] at hLd
          refine W_tight (hL0.tr hLd).1 (hL0.tr hLd).2.1 ?_
          clear hL0 hLd
          have hP : va_P (gD g) cl0 ws_354 H1 := by rw [← ht9]; exact hP1
          have hD : va_D A ws_354 := hD1.weaken (fun _ _ _ h => hFc _ h)
          have kf_359 := hw9
          clear hP1 hD1 hz9 hk9 hvm9 ht9 hw9
          generalize H1 = H at hP hS ⊢
          have aa_360 := a_r3_348
          have aa_361 := a_r4_348
          have aa_362 := a_r10_1
          have aa_363 := a_r11_1
          have aa_364 := a_r12_1
          have aa_365 := a_r13_1
          have aa_366 := a_r16_348
          have aa_367 := a_r17_348
          have aa_368 := a_r0_349
          have aa_369 := a_r5_98
          have aa_370 := a_r6_98
          have aa_371 := a_r7_349
          have aa_372 := a_r9_349
          have aa_373 := a_r10_349
          have aa_374 := a_r11_349
          have aa_375 := a_r12_349
          have aa_376 := a_r13_349
          have aa_377 := a_r0_350
          have o_h0 := E_355.1 _ _ o_h0
          have tq_378 : wcP ws_354 h0 0 ((10 + 8 * v5_304.toInt) + 2) (103) := wcP_1 hDW hG Fr_356 (by decide) (by decide) (by decide) (by decide) hkW rfl (fun k9 ci9 fs9 h9 c9 e9 => by have w9 := kf_359 _ _ _ h9 c9 e9; have w8 := Hide.out wb_351; omega) jx_155_1
          refine W_led (fun hLd => ?_)
          have hcl : dc_155_1 + dc_357 + PC ws_354 ≤ PC ws + (0) := (by have e0 : (0 : Int32).toInt = 0 := (by decide); have q_f_16 := Hide.out f_16; have q_f_25 := Hide.out f_25; omega)
          have hsl : ds_155_1 + ds_358 + PS ws_354 ≤ PS ws + (0) := (by have e0 : (0 : Int32).toInt = 0 := (by decide); have q_f_16 := Hide.out f_16; have q_f_25 := Hide.out f_25; omega)
          refine W.widen (k := PC ws + (0)) (n := PS ws + (0)) (by omega) (by omega) ?_
          obtain ⟨fs9, hk_379, hq_379⟩ := ((gF.a (F' := [(0, 0), (0, 1)]) Fr_356 (fun _ h => h))) _ _ _ hk_348
          refine opn_X11 hG hk_379 (fun r0_379 r1_379 r2_379 r3_379 n3_379 r4_379 n4_379 c5_379 c6_379 v7_379 c8_379 c9_379 r10_379 n10_379 r11_379 n11_379 r12_379 n12_379 r13_379 n13_379 r14_379 v15_379 r16_379 n16_379 r17_379 n17_379 hf9 o_r0_379 o_r1_379 o_r2_379 a_r3_379 f4_379 a_r4_379 f6_379 hz_c6_379 o_v7_379 a_r10_379 f10_379 a_r11_379 f12_379 a_r12_379 f14_379 a_r13_379 f16_379 o_r14_379 o_v15_379 a_r16_379 f20_379 a_r17_379 f22_379 f23_379 f24_379 f25_379 f26_379 f27_379 f28_379 => ?_)
          subst hf9
          obtain rfl := fe_r (hq_379 0 (by decide))
          have o_r0_1 := o_r0_379
          obtain rfl := fe_r (hq_379 1 (by decide))
          have o_r1_1 := o_r1_379
          have hn9 := fe_qr (hq_379 7 (by decide))
          subst hn9
          have o_b1 := o_v7_379 _ rfl
          obtain rfl := fe_i (hq_379 9 (by decide))
          obtain rfl := fe_r (hq_379 10 (by decide))
          have hn9 := gI_n hD ((E_355).1 _ _ aa_362) a_r10_379
          subst hn9
          have a_r10_1 := a_r10_379
          obtain rfl := fe_r (hq_379 11 (by decide))
          have hn9 := gI_n hD ((E_355).1 _ _ aa_363) a_r11_379
          subst hn9
          have a_r11_1 := a_r11_379
          obtain rfl := fe_r (hq_379 12 (by decide))
          have hn9 := gI_n hD ((E_355).1 _ _ aa_364) a_r12_379
          subst hn9
          have a_r12_1 := a_r12_379
          obtain rfl := fe_r (hq_379 13 (by decide))
          have hn9 := gI_n hD ((E_355).1 _ _ aa_365) a_r13_379
          subst hn9
          have a_r13_1 := a_r13_379
          obtain rfl := fe_q (hq_379 15 (by decide))
          have o_v15_1 := o_v15_379
          have tq_380 : enP g ws_354 h0 := enP_mo ((gF.mo (F' := [(0, 0), (0, 1)]) (C' := [(0, 0), (6, 0)]) (S' := none) Fr_356 (fun _ h => h) (fun _ h => h) (Or.inl rfl))) (by decide) (by decide) (by decide) jx_155_0
          have tq_381 : nlA9 ws_354 h0 := nlA9_mo ((gF.tr (gF.mo (F' := [(0, 0), (0, 1), (10, 5), (10, 6), (10, 8), (10, 9)]) (C' := [(0, 0), (6, 0), (10, 3), (10, 4), (10, 10), (10, 11), (10, 12), (10, 13)]) (S' := none) Fr_21 (by decide) (fun _ h => absurd h List.not_mem_nil) (Or.inl rfl)) (gF.tr (gF.mo (F' := [(0, 0), (0, 1), (10, 5), (10, 6), (10, 8), (10, 9)]) (C' := [(0, 0), (6, 0), (10, 3), (10, 4), (10, 10), (10, 11), (10, 12), (10, 13)]) (S' := none) Fr_30 (by decide) (fun _ h => absurd h List.not_mem_nil) (Or.inl rfl)) (gF.tr (gF.mo (F' := [(0, 0), (0, 1), (10, 5), (10, 6), (10, 8), (10, 9)]) (C' := [(0, 0), (6, 0), (10, 3), (10, 4), (10, 10), (10, 11), (10, 12), (10, 13)]) (S' := none) Fr_37 (by decide) (fun _ h => absurd h List.not_mem_nil) (Or.inl rfl)) (gF.tr (gF.mo (F' := [(0, 0), (0, 1), (10, 5), (10, 6), (10, 8), (10, 9)]) (C' := [(0, 0), (6, 0), (10, 3), (10, 4), (10, 10), (10, 11), (10, 12), (10, 13)]) (S' := none) Fr_45 (by decide) (fun _ h => absurd h List.not_mem_nil) (Or.inl rfl)) (gF.tr (gF.mo (F' := [(0, 0), (0, 1), (10, 5), (10, 6), (10, 8), (10, 9)]) (C' := [(0, 0), (6, 0), (10, 3), (10, 4), (10, 10), (10, 11), (10, 12), (10, 13)]) (S' := none) Fr_49 (fun _ h => absurd h List.not_mem_nil) (by decide) (Or.inr rfl)) (gF.tr (gF.mo (F' := [(0, 0), (0, 1), (10, 5), (10, 6), (10, 8), (10, 9)]) (C' := [(0, 0), (6, 0), (10, 3), (10, 4), (10, 10), (10, 11), (10, 12), (10, 13)]) (S' := none) Fr_66 (fun _ h => absurd h List.not_mem_nil) (by decide) (Or.inr rfl)) (gF.tr (gF.mo (F' := [(0, 0), (0, 1), (10, 5), (10, 6), (10, 8), (10, 9)]) (C' := [(0, 0), (6, 0), (10, 3), (10, 4), (10, 10), (10, 11), (10, 12), (10, 13)]) (S' := none) Fr_87 (by decide) (by decide) (Or.inr rfl)) (gF.tr (gF.mo (F' := [(0, 0), (0, 1), (10, 5), (10, 6), (10, 8), (10, 9)]) (C' := [(0, 0), (6, 0), (10, 3), (10, 4), (10, 10), (10, 11), (10, 12), (10, 13)]) (S' := none) Fr_96 (by decide) (fun _ h => absurd h List.not_mem_nil) (Or.inl rfl)) (gF.tr (gF.mo (F' := [(0, 0), (0, 1), (10, 5), (10, 6), (10, 8), (10, 9)]) (C' := [(0, 0), (6, 0), (10, 3), (10, 4), (10, 10), (10, 11), (10, 12), (10, 13)]) (S' := none) Fr_107 (by decide) (by decide) (Or.inr rfl)) (gF.tr (gF.mo (F' := [(0, 0), (0, 1), (10, 5), (10, 6), (10, 8), (10, 9)]) (C' := [(0, 0), (6, 0), (10, 3), (10, 4), (10, 10), (10, 11), (10, 12), (10, 13)]) (S' := none) Fr_133 (by decide) (by decide) (Or.inr rfl)) (gF.tr (gF.mo (F' := [(0, 0), (0, 1), (10, 5), (10, 6), (10, 8), (10, 9)]) (C' := [(0, 0), (6, 0), (10, 3), (10, 4), (10, 10), (10, 11), (10, 12), (10, 13)]) (S' := none) Fr_142 (by decide) (fun _ h => absurd h List.not_mem_nil) (Or.inl rfl)) (gF.tr (gF.mo (F' := [(0, 0), (0, 1), (10, 5), (10, 6), (10, 8), (10, 9)]) (C' := [(0, 0), (6, 0), (10, 3), (10, 4), (10, 10), (10, 11), (10, 12), (10, 13)]) (S' := none) Fr_153 (by decide) (by decide) (Or.inr rfl)) (gF.tr (gF.mo (F' := [(0, 0), (0, 1), (10, 5), (10, 6), (10, 8), (10, 9)]) (C' := [(0, 0), (6, 0), (10, 3), (10, 4), (10, 10), (10, 11), (10, 12), (10, 13)]) (S' := none) Fr_179 (by decide) (by decide) (Or.inr rfl)) (gF.tr (gF.mo (F' := [(0, 0), (0, 1), (10, 5), (10, 6), (10, 8), (10, 9)]) (C' := [(0, 0), (6, 0), (10, 3), (10, 4), (10, 10), (10, 11), (10, 12), (10, 13)]) (S' := none) Fr_191 (by decide) (by decide) (Or.inl rfl)) (gF.tr (gF.mo (F' := [(0, 0), (0, 1), (10, 5), (10, 6), (10, 8), (10, 9)]) (C' := [(0, 0), (6, 0), (10, 3), (10, 4), (10, 10), (10, 11), (10, 12), (10, 13)]) (S' := none) Fr_213 (by decide) (by decide) (Or.inl rfl)) (gF.tr (gF.mo (F' := [(0, 0), (0, 1), (10, 5), (10, 6), (10, 8), (10, 9)]) (C' := [(0, 0), (6, 0), (10, 3), (10, 4), (10, 10), (10, 11), (10, 12), (10, 13)]) (S' := none) Fr_235 (by decide) (by decide) (Or.inl rfl)) (gF.tr (gF.mo (F' := [(0, 0), (0, 1), (10, 5), (10, 6), (10, 8), (10, 9)]) (C' := [(0, 0), (6, 0), (10, 3), (10, 4), (10, 10), (10, 11), (10, 12), (10, 13)]) (S' := none) Fr_257 (by decide) (by decide) (Or.inl rfl)) (gF.tr (gF.mo (F' := [(0, 0), (0, 1), (10, 5), (10, 6), (10, 8), (10, 9)]) (C' := [(0, 0), (6, 0), (10, 3), (10, 4), (10, 10), (10, 11), (10, 12), (10, 13)]) (S' := none) Fr_281 (by decide) (by decide) (Or.inl rfl)) (gF.tr (gF.mo (F' := [(0, 0), (0, 1), (10, 5), (10, 6), (10, 8), (10, 9)]) (C' := [(0, 0), (6, 0), (10, 3), (10, 4), (10, 10), (10, 11), (10, 12), (10, 13)]) (S' := none) Fr_309 (by decide) (by decide) (Or.inr rfl)) (gF.mo (F' := [(0, 0), (0, 1), (10, 5), (10, 6), (10, 8), (10, 9)]) (C' := [(0, 0), (6, 0), (10, 3), (10, 4), (10, 10), (10, 11), (10, 12), (10, 13)]) (S' := none) Fr_356 (by decide) (by decide) (Or.inl rfl)))))))))))))))))))))) (by decide) (by decide) (by decide) (by decide) (by decide) tq_10
          have tq_382 : nlA10 ws_354 h0 := nlA10_mo ((gF.tr (gF.mo (F' := [(0, 0), (0, 1), (10, 5), (10, 6), (10, 8), (10, 9)]) (C' := [(0, 0), (6, 0), (10, 3), (10, 4), (10, 10), (10, 11), (10, 12), (10, 13)]) (S' := none) Fr_21 (by decide) (fun _ h => absurd h List.not_mem_nil) (Or.inl rfl)) (gF.tr (gF.mo (F' := [(0, 0), (0, 1), (10, 5), (10, 6), (10, 8), (10, 9)]) (C' := [(0, 0), (6, 0), (10, 3), (10, 4), (10, 10), (10, 11), (10, 12), (10, 13)]) (S' := none) Fr_30 (by decide) (fun _ h => absurd h List.not_mem_nil) (Or.inl rfl)) (gF.tr (gF.mo (F' := [(0, 0), (0, 1), (10, 5), (10, 6), (10, 8), (10, 9)]) (C' := [(0, 0), (6, 0), (10, 3), (10, 4), (10, 10), (10, 11), (10, 12), (10, 13)]) (S' := none) Fr_37 (by decide) (fun _ h => absurd h List.not_mem_nil) (Or.inl rfl)) (gF.tr (gF.mo (F' := [(0, 0), (0, 1), (10, 5), (10, 6), (10, 8), (10, 9)]) (C' := [(0, 0), (6, 0), (10, 3), (10, 4), (10, 10), (10, 11), (10, 12), (10, 13)]) (S' := none) Fr_45 (by decide) (fun _ h => absurd h List.not_mem_nil) (Or.inl rfl)) (gF.tr (gF.mo (F' := [(0, 0), (0, 1), (10, 5), (10, 6), (10, 8), (10, 9)]) (C' := [(0, 0), (6, 0), (10, 3), (10, 4), (10, 10), (10, 11), (10, 12), (10, 13)]) (S' := none) Fr_49 (fun _ h => absurd h List.not_mem_nil) (by decide) (Or.inr rfl)) (gF.tr (gF.mo (F' := [(0, 0), (0, 1), (10, 5), (10, 6), (10, 8), (10, 9)]) (C' := [(0, 0), (6, 0), (10, 3), (10, 4), (10, 10), (10, 11), (10, 12), (10, 13)]) (S' := none) Fr_66 (fun _ h => absurd h List.not_mem_nil) (by decide) (Or.inr rfl)) (gF.tr (gF.mo (F' := [(0, 0), (0, 1), (10, 5), (10, 6), (10, 8), (10, 9)]) (C' := [(0, 0), (6, 0), (10, 3), (10, 4), (10, 10), (10, 11), (10, 12), (10, 13)]) (S' := none) Fr_87 (by decide) (by decide) (Or.inr rfl)) (gF.tr (gF.mo (F' := [(0, 0), (0, 1), (10, 5), (10, 6), (10, 8), (10, 9)]) (C' := [(0, 0), (6, 0), (10, 3), (10, 4), (10, 10), (10, 11), (10, 12), (10, 13)]) (S' := none) Fr_96 (by decide) (fun _ h => absurd h List.not_mem_nil) (Or.inl rfl)) (gF.tr (gF.mo (F' := [(0, 0), (0, 1), (10, 5), (10, 6), (10, 8), (10, 9)]) (C' := [(0, 0), (6, 0), (10, 3), (10, 4), (10, 10), (10, 11), (10, 12), (10, 13)]) (S' := none) Fr_107 (by decide) (by decide) (Or.inr rfl)) (gF.tr (gF.mo (F' := [(0, 0), (0, 1), (10, 5), (10, 6), (10, 8), (10, 9)]) (C' := [(0, 0), (6, 0), (10, 3), (10, 4), (10, 10), (10, 11), (10, 12), (10, 13)]) (S' := none) Fr_133 (by decide) (by decide) (Or.inr rfl)) (gF.tr (gF.mo (F' := [(0, 0), (0, 1), (10, 5), (10, 6), (10, 8), (10, 9)]) (C' := [(0, 0), (6, 0), (10, 3), (10, 4), (10, 10), (10, 11), (10, 12), (10, 13)]) (S' := none) Fr_142 (by decide) (fun _ h => absurd h List.not_mem_nil) (Or.inl rfl)) (gF.tr (gF.mo (F' := [(0, 0), (0, 1), (10, 5), (10, 6), (10, 8), (10, 9)]) (C' := [(0, 0), (6, 0), (10, 3), (10, 4), (10, 10), (10, 11), (10, 12), (10, 13)]) (S' := none) Fr_153 (by decide) (by decide) (Or.inr rfl)) (gF.tr (gF.mo (F' := [(0, 0), (0, 1), (10, 5), (10, 6), (10, 8), (10, 9)]) (C' := [(0, 0), (6, 0), (10, 3), (10, 4), (10, 10), (10, 11), (10, 12), (10, 13)]) (S' := none) Fr_179 (by decide) (by decide) (Or.inr rfl)) (gF.tr (gF.mo (F' := [(0, 0), (0, 1), (10, 5), (10, 6), (10, 8), (10, 9)]) (C' := [(0, 0), (6, 0), (10, 3), (10, 4), (10, 10), (10, 11), (10, 12), (10, 13)]) (S' := none) Fr_191 (by decide) (by decide) (Or.inl rfl)) (gF.tr (gF.mo (F' := [(0, 0), (0, 1), (10, 5), (10, 6), (10, 8), (10, 9)]) (C' := [(0, 0), (6, 0), (10, 3), (10, 4), (10, 10), (10, 11), (10, 12), (10, 13)]) (S' := none) Fr_213 (by decide) (by decide) (Or.inl rfl)) (gF.tr (gF.mo (F' := [(0, 0), (0, 1), (10, 5), (10, 6), (10, 8), (10, 9)]) (C' := [(0, 0), (6, 0), (10, 3), (10, 4), (10, 10), (10, 11), (10, 12), (10, 13)]) (S' := none) Fr_235 (by decide) (by decide) (Or.inl rfl)) (gF.tr (gF.mo (F' := [(0, 0), (0, 1), (10, 5), (10, 6), (10, 8), (10, 9)]) (C' := [(0, 0), (6, 0), (10, 3), (10, 4), (10, 10), (10, 11), (10, 12), (10, 13)]) (S' := none) Fr_257 (by decide) (by decide) (Or.inl rfl)) (gF.tr (gF.mo (F' := [(0, 0), (0, 1), (10, 5), (10, 6), (10, 8), (10, 9)]) (C' := [(0, 0), (6, 0), (10, 3), (10, 4), (10, 10), (10, 11), (10, 12), (10, 13)]) (S' := none) Fr_281 (by decide) (by decide) (Or.inl rfl)) (gF.tr (gF.mo (F' := [(0, 0), (0, 1), (10, 5), (10, 6), (10, 8), (10, 9)]) (C' := [(0, 0), (6, 0), (10, 3), (10, 4), (10, 10), (10, 11), (10, 12), (10, 13)]) (S' := none) Fr_309 (by decide) (by decide) (Or.inr rfl)) (gF.mo (F' := [(0, 0), (0, 1), (10, 5), (10, 6), (10, 8), (10, 9)]) (C' := [(0, 0), (6, 0), (10, 3), (10, 4), (10, 10), (10, 11), (10, 12), (10, 13)]) (S' := none) Fr_356 (by decide) (by decide) (Or.inl rfl)))))))))))))))))))))) (by decide) (by decide) (by decide) (by decide) (by decide) tq_11
          have tq_383 : wcP ws_354 h0 0 (204) (103) := wcP_le (by have e0 : (0 : Int32).toInt = 0 := (by decide); have q_f_16 := Hide.out f_16; have q_f_25 := Hide.out f_25; have e09 : (0 : Int32).toInt = 0 := rfl; omega) (by first | (have e0 : (0 : Int32).toInt = 0 := (by decide); have e24 : (24 : Int32).toInt = 24 := (by decide); have e204 : (204 : Int32).toInt = 204 := (by decide); have q_f_16 := Hide.out f_16; have q_f_25 := Hide.out f_25; have q_iv_305 := Hide.out iv_305; have q_iv_306 := Hide.out iv_306; have q_c_310 := i_nle c_310; have q_c_347 := i_le c_347; have q_wb_351 := Hide.out wb_351; have g_c1_350 := i_rg c1_350; have g_v5_304 := i_rg v5_304; have g_z_273 := i_rg z_273; have e09 : (0 : Int32).toInt = 0 := rfl; omega) | (have e0 : (0 : Int32).toInt = 0 := (by decide); have e24 : (24 : Int32).toInt = 24 := (by decide); have e204 : (204 : Int32).toInt = 204 := (by decide); have q_f_16 := Hide.out f_16; have q_f_25 := Hide.out f_25; have q_iv_305 := Hide.out iv_305; have q_iv_306 := Hide.out iv_306; have q_c_310 := i_nle c_310; have q_c_347 := i_le c_347; have q_wb_351 := Hide.out wb_351; obtain ⟨u_z_273, q_z_273⟩ := i_add ez_273; have q_f2_350 := Hide.out f2_350; have q_f3_350 := Hide.out f3_350; have g_c1_350 := i_rg c1_350; have g_c4_98 := i_rg c4_98; have g_v5_304 := i_rg v5_304; have g_x2 := i_rg x2; have g_z_273 := i_rg z_273; have e09 : (0 : Int32).toInt = 0 := rfl; omega) | (have e0 : (0 : Int32).toInt = 0 := (by decide); have e24 : (24 : Int32).toInt = 24 := (by decide); have e204 : (204 : Int32).toInt = 204 := (by decide); have q_f_16 := Hide.out f_16; have q_f_25 := Hide.out f_25; have q_iv_305 := Hide.out iv_305; have q_iv_306 := Hide.out iv_306; have q_c_310 := i_nle c_310; have q_c_347 := i_le c_347; have q_wb_351 := Hide.out wb_351; obtain ⟨u_z_273, q_z_273⟩ := i_add ez_273; have q_f2_350 := Hide.out f2_350; have q_f3_350 := Hide.out f3_350; have q_f19_98 := Hide.out f19_98; have q_f1_350 := Hide.out f1_350; have q_f4_350 := Hide.out f4_350; have q_f5_350 := Hide.out f5_350; have g_c1_350 := i_rg c1_350; have g_c4_98 := i_rg c4_98; have g_v5_304 := i_rg v5_304; have g_x2 := i_rg x2; have g_z_273 := i_rg z_273; have e09 : (0 : Int32).toInt = 0 := rfl; omega) | (have e0 : (0 : Int32).toInt = 0 := (by decide); have e24 : (24 : Int32).toInt = 24 := (by decide); have e204 : (204 : Int32).toInt = 204 := (by decide); have q_f_16 := Hide.out f_16; have q_f_25 := Hide.out f_25; have q_iv_305 := Hide.out iv_305; have q_iv_306 := Hide.out iv_306; have q_c_310 := i_nle c_310; have q_c_347 := i_le c_347; have q_wb_351 := Hide.out wb_351; obtain ⟨u_z_273, q_z_273⟩ := i_add ez_273; have q_f2_350 := Hide.out f2_350; have q_f3_350 := Hide.out f3_350; have q_f19_98 := Hide.out f19_98; have q_f1_350 := Hide.out f1_350; have q_f4_350 := Hide.out f4_350; have q_f5_350 := Hide.out f5_350; have q_f3_98 := Hide.out f3_98; have q_f20_98 := Hide.out f20_98; have q_f21_98 := Hide.out f21_98; have q_f28_98 := Hide.out f28_98; have q_f21_144 := Hide.out f21_144; have q_f21_272 := Hide.out f21_272; have q_f21_349 := Hide.out f21_349; have g_c1_350 := i_rg c1_350; have g_c4_98 := i_rg c4_98; have g_v5_304 := i_rg v5_304; have g_x2 := i_rg x2; have g_z_273 := i_rg z_273; have e09 : (0 : Int32).toInt = 0 := rfl; omega)) (by have e0 : (0 : Int32).toInt = 0 := (by decide); have e103 : (103 : Int32).toInt = 103 := (by decide); have q_f_16 := Hide.out f_16; have q_f_25 := Hide.out f_25; have e09 : (0 : Int32).toInt = 0 := rfl; omega) tq_378
          exact W.vret hx hb hr (fun t9 ht9 hW9 => ⟨⟨ws_354, rfl, ⟨trivial, (gN_of hD hk_379 (j := 7) rfl), tq_380, tq_381, tq_382, tq_383⟩, ⟨(E_4.tr (E_20.tr (E_29.tr (E_36.tr (E_44.tr (E_48.tr (E_65.tr (E_86.tr (E_95.tr (E_106.tr (E_132.tr (E_141.tr (E_152.tr (E_178.tr (E_190.tr (E_212.tr (E_234.tr (E_256.tr (E_280.tr (E_308.tr E_355)))))))))))))))))))), (gF.tr (gF.mo (F' := [(0, 0), (0, 1), (10, 5), (10, 6), (10, 7), (10, 8), (10, 9)]) (C' := [(0, 0), (6, 0), (10, 3), (10, 4), (10, 10), (10, 11), (10, 12), (10, 13)]) (S' := none) Fr_5 (by decide) (fun _ h => absurd h List.not_mem_nil) (Or.inl rfl)) (gF.tr (gF.mo (F' := [(0, 0), (0, 1), (10, 5), (10, 6), (10, 7), (10, 8), (10, 9)]) (C' := [(0, 0), (6, 0), (10, 3), (10, 4), (10, 10), (10, 11), (10, 12), (10, 13)]) (S' := none) Fr_21 (by decide) (fun _ h => absurd h List.not_mem_nil) (Or.inl rfl)) (gF.tr (gF.mo (F' := [(0, 0), (0, 1), (10, 5), (10, 6), (10, 7), (10, 8), (10, 9)]) (C' := [(0, 0), (6, 0), (10, 3), (10, 4), (10, 10), (10, 11), (10, 12), (10, 13)]) (S' := none) Fr_30 (by decide) (fun _ h => absurd h List.not_mem_nil) (Or.inl rfl)) (gF.tr (gF.mo (F' := [(0, 0), (0, 1), (10, 5), (10, 6), (10, 7), (10, 8), (10, 9)]) (C' := [(0, 0), (6, 0), (10, 3), (10, 4), (10, 10), (10, 11), (10, 12), (10, 13)]) (S' := none) Fr_37 (by decide) (fun _ h => absurd h List.not_mem_nil) (Or.inl rfl)) (gF.tr (gF.mo (F' := [(0, 0), (0, 1), (10, 5), (10, 6), (10, 7), (10, 8), (10, 9)]) (C' := [(0, 0), (6, 0), (10, 3), (10, 4), (10, 10), (10, 11), (10, 12), (10, 13)]) (S' := none) Fr_45 (by decide) (fun _ h => absurd h List.not_mem_nil) (Or.inl rfl)) (gF.tr (gF.mo (F' := [(0, 0), (0, 1), (10, 5), (10, 6), (10, 7), (10, 8), (10, 9)]) (C' := [(0, 0), (6, 0), (10, 3), (10, 4), (10, 10), (10, 11), (10, 12), (10, 13)]) (S' := none) Fr_49 (fun _ h => absurd h List.not_mem_nil) (by decide) (Or.inr rfl)) (gF.tr (gF.mo (F' := [(0, 0), (0, 1), (10, 5), (10, 6), (10, 7), (10, 8), (10, 9)]) (C' := [(0, 0), (6, 0), (10, 3), (10, 4), (10, 10), (10, 11), (10, 12), (10, 13)]) (S' := none) Fr_66 (fun _ h => absurd h List.not_mem_nil) (by decide) (Or.inr rfl)) (gF.tr (gF.mo (F' := [(0, 0), (0, 1), (10, 5), (10, 6), (10, 7), (10, 8), (10, 9)]) (C' := [(0, 0), (6, 0), (10, 3), (10, 4), (10, 10), (10, 11), (10, 12), (10, 13)]) (S' := none) Fr_87 (by decide) (by decide) (Or.inr rfl)) (gF.tr (gF.mo (F' := [(0, 0), (0, 1), (10, 5), (10, 6), (10, 7), (10, 8), (10, 9)]) (C' := [(0, 0), (6, 0), (10, 3), (10, 4), (10, 10), (10, 11), (10, 12), (10, 13)]) (S' := none) Fr_96 (by decide) (fun _ h => absurd h List.not_mem_nil) (Or.inl rfl)) (gF.tr (gF.mo (F' := [(0, 0), (0, 1), (10, 5), (10, 6), (10, 7), (10, 8), (10, 9)]) (C' := [(0, 0), (6, 0), (10, 3), (10, 4), (10, 10), (10, 11), (10, 12), (10, 13)]) (S' := none) Fr_107 (by decide) (by decide) (Or.inr rfl)) (gF.tr (gF.mo (F' := [(0, 0), (0, 1), (10, 5), (10, 6), (10, 7), (10, 8), (10, 9)]) (C' := [(0, 0), (6, 0), (10, 3), (10, 4), (10, 10), (10, 11), (10, 12), (10, 13)]) (S' := none) Fr_133 (by decide) (by decide) (Or.inr rfl)) (gF.tr (gF.mo (F' := [(0, 0), (0, 1), (10, 5), (10, 6), (10, 7), (10, 8), (10, 9)]) (C' := [(0, 0), (6, 0), (10, 3), (10, 4), (10, 10), (10, 11), (10, 12), (10, 13)]) (S' := none) Fr_142 (by decide) (fun _ h => absurd h List.not_mem_nil) (Or.inl rfl)) (gF.tr (gF.mo (F' := [(0, 0), (0, 1), (10, 5), (10, 6), (10, 7), (10, 8), (10, 9)]) (C' := [(0, 0), (6, 0), (10, 3), (10, 4), (10, 10), (10, 11), (10, 12), (10, 13)]) (S' := none) Fr_153 (by decide) (by decide) (Or.inr rfl)) (gF.tr (gF.mo (F' := [(0, 0), (0, 1), (10, 5), (10, 6), (10, 7), (10, 8), (10, 9)]) (C' := [(0, 0), (6, 0), (10, 3), (10, 4), (10, 10), (10, 11), (10, 12), (10, 13)]) (S' := none) Fr_179 (by decide) (by decide) (Or.inr rfl)) (gF.tr (gF.mo (F' := [(0, 0), (0, 1), (10, 5), (10, 6), (10, 7), (10, 8), (10, 9)]) (C' := [(0, 0), (6, 0), (10, 3), (10, 4), (10, 10), (10, 11), (10, 12), (10, 13)]) (S' := none) Fr_191 (by decide) (by decide) (Or.inl rfl)) (gF.tr (gF.mo (F' := [(0, 0), (0, 1), (10, 5), (10, 6), (10, 7), (10, 8), (10, 9)]) (C' := [(0, 0), (6, 0), (10, 3), (10, 4), (10, 10), (10, 11), (10, 12), (10, 13)]) (S' := none) Fr_213 (by decide) (by decide) (Or.inl rfl)) (gF.tr (gF.mo (F' := [(0, 0), (0, 1), (10, 5), (10, 6), (10, 7), (10, 8), (10, 9)]) (C' := [(0, 0), (6, 0), (10, 3), (10, 4), (10, 10), (10, 11), (10, 12), (10, 13)]) (S' := none) Fr_235 (by decide) (by decide) (Or.inl rfl)) (gF.tr (gF.mo (F' := [(0, 0), (0, 1), (10, 5), (10, 6), (10, 7), (10, 8), (10, 9)]) (C' := [(0, 0), (6, 0), (10, 3), (10, 4), (10, 10), (10, 11), (10, 12), (10, 13)]) (S' := none) Fr_257 (by decide) (by decide) (Or.inl rfl)) (gF.tr (gF.mo (F' := [(0, 0), (0, 1), (10, 5), (10, 6), (10, 7), (10, 8), (10, 9)]) (C' := [(0, 0), (6, 0), (10, 3), (10, 4), (10, 10), (10, 11), (10, 12), (10, 13)]) (S' := none) Fr_281 (by decide) (by decide) (Or.inl rfl)) (gF.tr (gF.mo (F' := [(0, 0), (0, 1), (10, 5), (10, 6), (10, 7), (10, 8), (10, 9)]) (C' := [(0, 0), (6, 0), (10, 3), (10, 4), (10, 10), (10, 11), (10, 12), (10, 13)]) (S' := none) Fr_309 (by decide) (by decide) (Or.inr rfl)) (gF.mo (F' := [(0, 0), (0, 1), (10, 5), (10, 6), (10, 7), (10, 8), (10, 9)]) (C' := [(0, 0), (6, 0), (10, 3), (10, 4), (10, 10), (10, 11), (10, 12), (10, 13)]) (S' := none) Fr_356 (by decide) (by decide) (Or.inl rfl)))))))))))))))))))))), hG, by rw [ht9]; exact hP, hD, _, _, by rw [ht9]; exact hLd, hcl, hsl⟩⟩, hS.F ht9⟩) hS.2.2 dX11_begin_307
        · refine lv_iload hx hb dX11_begin_169 (lv_at hl 2 rfl) ?_
          refine lv_aload_n hx hb dX11_begin_171 rfl (lv_at hl 0 rfl) ?_
          obtain ⟨fs9, hk_384, hq_384⟩ := ((gA.tr (gF.a (F' := [(0, 0), (0, 1), (10, 5), (10, 6)]) Fr_281 (by decide)) (gF.a (F' := [(0, 0), (0, 1), (10, 5), (10, 6)]) Fr_309 (fun _ h => h)))) _ _ _ hk_271
          refine opn_X11 hG hk_384 (fun r0_384 r1_384 r2_384 r3_384 n3_384 r4_384 n4_384 c5_384 c6_384 v7_384 c8_384 c9_384 r10_384 n10_384 r11_384 n11_384 r12_384 n12_384 r13_384 n13_384 r14_384 v15_384 r16_384 n16_384 r17_384 n17_384 hf9 o_r0_384 o_r1_384 o_r2_384 a_r3_384 f4_384 a_r4_384 f6_384 hz_c6_384 o_v7_384 a_r10_384 f10_384 a_r11_384 f12_384 a_r12_384 f14_384 a_r13_384 f16_384 o_r14_384 o_v15_384 a_r16_384 f20_384 a_r17_384 f22_384 f23_384 f24_384 f25_384 f26_384 f27_384 f28_384 => ?_)
          subst hf9
          obtain rfl := fe_r (hq_384 0 (by decide))
          have o_r0_1 := o_r0_384
          obtain rfl := fe_r (hq_384 1 (by decide))
          have o_r1_1 := o_r1_384
          have hn9 := fe_qr (hq_384 7 (by decide))
          subst hn9
          have o_b1 := o_v7_384 _ rfl
          obtain rfl := fe_i (hq_384 9 (by decide))
          obtain rfl := fe_r (hq_384 10 (by decide))
          have hn9 := gI_n hD (((E_280.tr E_308)).1 _ _ aa_287) a_r10_384
          subst hn9
          have a_r10_1 := a_r10_384
          obtain rfl := fe_r (hq_384 11 (by decide))
          have hn9 := gI_n hD (((E_280.tr E_308)).1 _ _ aa_288) a_r11_384
          subst hn9
          have a_r11_1 := a_r11_384
          obtain rfl := fe_r (hq_384 12 (by decide))
          have hn9 := gI_n hD (((E_280.tr E_308)).1 _ _ aa_289) a_r12_384
          subst hn9
          have a_r12_1 := a_r12_384
          obtain rfl := fe_r (hq_384 13 (by decide))
          have hn9 := gI_n hD (((E_280.tr E_308)).1 _ _ aa_290) a_r13_384
          subst hn9
          have a_r13_1 := a_r13_384
          obtain rfl := fe_q (hq_384 15 (by decide))
          have o_v15_1 := o_v15_384
          refine va_get (D := gD g) (ci := 10) (v := .ref b1) (C := RX11) (T := TX11) (N := 18) hx hb hts inX11 hown hK hP k_1 hk_384 rfl 7 (by decide) (hts _ kw_86) (fun _ h9 => h9) rfl dX11_begin_172 ?_
          obtain ⟨fs9, hk_385, hq_385⟩ := ((gA.tr (gF.a (F' := [(0, 0), (0, 1), (10, 5), (10, 6)]) Fr_281 (by decide)) (gF.a (F' := [(0, 0), (0, 1), (10, 5), (10, 6)]) Fr_309 (fun _ h => h)))) _ _ _ hk_272
          refine opn_X10 hG hk_385 (fun r0_385 n0_385 c1_385 c2_385 c3_385 c4_385 r5_385 n5_385 r6_385 n6_385 r7_385 n7_385 c8_385 r9_385 n9_385 r10_385 n10_385 r11_385 n11_385 r12_385 n12_385 r13_385 n13_385 c14_385 c15_385 c16_385 c17_385 hf9 a_r0_385 f1_385 a_r5_385 f3_385 a_r6_385 f5_385 a_r7_385 f7_385 a_r9_385 f9_385 a_r10_385 f11_385 a_r11_385 f13_385 a_r12_385 f15_385 a_r13_385 f17_385 hz_c15_385 f19_385 f20_385 f21_385 f22_385 f23_385 f24_385 f25_385 f26_385 f27_385 f28_385 => ?_)
          subst hf9
          obtain rfl := fe_i (hq_385 2 (by decide))
          obtain rfl := fe_i (hq_385 3 (by decide))
          obtain rfl := fe_i (hq_385 4 (by decide))
          obtain rfl := fe_r (hq_385 5 (by decide))
          have hn9 := gI_n hD (((E_280.tr E_308)).1 _ _ aa_294) a_r5_385
          subst hn9
          have a_r5_98 := a_r5_385
          obtain rfl := fe_r (hq_385 6 (by decide))
          have hn9 := gI_n hD (((E_280.tr E_308)).1 _ _ aa_295) a_r6_385
          subst hn9
          have a_r6_98 := a_r6_385
          obtain rfl := fe_i (hq_385 8 (by decide))
          refine va_get (D := gD g) (ci := 9) (v := .ref r5_98) (C := RX10) (T := TX10) (N := 18) hx hb hts inX10 hown hK hP k_98 hk_385 rfl 5 (by decide) (hts _ kw_125) (fun _ h9 => h9) rfl dX11_begin_175 ?_
          obtain ⟨k_386, f_386, hk_386⟩ := gI_of a_r5_98
          obtain ⟨z_387, ez_387⟩ : ∃ z : Int32, Int32.ofNat n5_98 = z := ⟨_, rfl⟩
          refine va_alen (v := z_387) hx hb hK hP k_386 1 hk_386 rfl ez_387 dX11_begin_178 ?_
          refine lv_icmp_ge (tgt := 186) hx hb dX11_begin_179 (by decide) (fun c_388 => ?_) (fun c_388 => ?_)
          · refine lv_iconst (v := 0) hx hb dX11_begin_186 (by decide) ?_
            refine lv_istore (lv' := [(6, .int 0), (0, .ref h0), (4, .int z_273), (5, .int v5_304)]) hx hb dX11_begin_187 hl (by decide) rfl (fun ls hl => ?_)
            refine lv_aload_n hx hb dX11_begin_189 rfl (lv_at hl 1 rfl) ?_
            refine va_get (D := gD g) (ci := 10) (v := .ref r10_1) (C := RX11) (T := TX11) (N := 18) hx hb hts inX11 hown hK hP k_1 hk_384 rfl 10 (by decide) (hts _ kw_126) (fun _ h9 => h9) rfl dX11_begin_190 ?_
            refine lv_iload hx hb dX11_begin_193 (lv_at hl 3 rfl) ?_
            refine lv_iload hx hb dX11_begin_195 (lv_at hl 0 rfl) ?_
            refine lv_if_eq (tgt := 217) hx hb dX11_begin_197 (by decide) (fun _ => ?_) (fun c9 => absurd (by decide) c9)
            refine lv_aload_n hx hb dX11_begin_217 rfl (lv_at hl 1 rfl) ?_
            refine lv_iload hx hb dX11_begin_218 (lv_at hl 3 rfl) ?_
            refine lv_aload_n hx hb dX11_begin_220 rfl (lv_at hl 1 rfl) ?_
            refine va_get (D := gD g) (ci := 10) (v := .ref b1) (C := RX11) (T := TX11) (N := 18) hx hb hts inX11 hown hK hP k_1 hk_384 rfl 7 (by decide) (hts _ kw_86) (fun _ h9 => h9) rfl dX11_begin_221 ?_
            refine va_get (D := gD g) (ci := 9) (v := .ref r5_98) (C := RX10) (T := TX10) (N := 18) hx hb hts inX10 hown hK hP k_98 hk_385 rfl 5 (by decide) (hts _ kw_125) (fun _ h9 => h9) rfl dX11_begin_224 ?_
            obtain ⟨z_389, ez_389⟩ : ∃ z : Int32, Int32.ofNat n5_98 = z := ⟨_, rfl⟩
            refine va_alen (v := z_389) hx hb hK hP k_386 1 hk_386 rfl ez_389 dX11_begin_227 ?_
            refine lv_isub hx hb dX11_begin_228 ?_
            refine lv_topi (fun z_390 ez_390 => ?_)
            have hFc := gfree hD hS hA
            have pg_391 := ge_10_17 hD hk_384 rfl a_r17_384
            refine W_led (fun hL0 => ?_)
            refine va_calli (va_runV (As := [.int z_390]) (rest := [.int v5_304, .ref r10_1]) ⟨hx, hb, hml, hown, hts⟩ (m_X11_counterEntry l g H ws_307 h0 (z_390) (10 + 8 * v5_304.toInt) (103) hG o_h0 jx_155_0 jx_155_1 (by first | (have e0 : (0 : Int32).toInt = 0 := (by decide); have e24 : (24 : Int32).toInt = 24 := (by decide); have e103 : (103 : Int32).toInt = 103 := (by decide); have q_f_16 := Hide.out f_16; have q_f_25 := Hide.out f_25; have q_iv_305 := Hide.out iv_305; have q_iv_306 := Hide.out iv_306; have q_c_310 := i_nle c_310; have q_c_347 := i_nle c_347; have q_c_388 := i_le c_388; obtain ⟨u_z_390, q_z_390⟩ := i_sub ez_390; have g_v5_304 := i_rg v5_304; have g_z_273 := i_rg z_273; have g_z_387 := i_rg z_387; have g_z_389 := i_rg z_389; have g_z_390 := i_rg z_390; omega) | (have e0 : (0 : Int32).toInt = 0 := (by decide); have e24 : (24 : Int32).toInt = 24 := (by decide); have e103 : (103 : Int32).toInt = 103 := (by decide); have q_f_16 := Hide.out f_16; have q_f_25 := Hide.out f_25; have q_iv_305 := Hide.out iv_305; have q_iv_306 := Hide.out iv_306; have q_c_310 := i_nle c_310; have q_c_347 := i_nle c_347; have q_c_388 := i_le c_388; obtain ⟨u_z_390, q_z_390⟩ := i_sub ez_390; obtain ⟨u_z_273, q_z_273⟩ := i_add ez_273; have q_z_387 := i_len ez_387 f3_385; have q_z_389 := i_len ez_389 f3_385; have g_c4_98 := i_rg c4_98; have g_v5_304 := i_rg v5_304; have g_x2 := i_rg x2; have g_z_273 := i_rg z_273; have g_z_387 := i_rg z_387; have g_z_389 := i_rg z_389; have g_z_390 := i_rg z_390; omega) | (have e0 : (0 : Int32).toInt = 0 := (by decide); have e24 : (24 : Int32).toInt = 24 := (by decide); have e103 : (103 : Int32).toInt = 103 := (by decide); have q_f_16 := Hide.out f_16; have q_f_25 := Hide.out f_25; have q_iv_305 := Hide.out iv_305; have q_iv_306 := Hide.out iv_306; have q_c_310 := i_nle c_310; have q_c_347 := i_nle c_347; have q_c_388 := i_le c_388; obtain ⟨u_z_390, q_z_390⟩ := i_sub ez_390; obtain ⟨u_z_273, q_z_273⟩ := i_add ez_273; have q_z_387 := i_len ez_387 f3_385; have q_z_389 := i_len ez_389 f3_385; have q_f3_98 := Hide.out f3_98; have q_f19_98 := Hide.out f19_98; have q_f20_98 := Hide.out f20_98; have q_f21_98 := Hide.out f21_98; have q_f28_98 := Hide.out f28_98; have q_f21_144 := Hide.out f21_144; have q_f21_272 := Hide.out f21_272; have q_f21_385 := Hide.out f21_385; have g_c4_98 := i_rg c4_98; have g_v5_304 := i_rg v5_304; have g_x2 := i_rg x2; have g_z_273 := i_rg z_273; have g_z_387 := i_rg z_387; have g_z_389 := i_rg z_389; have g_z_390 := i_rg z_390; omega) | (have e0 : (0 : Int32).toInt = 0 := (by decide); have e24 : (24 : Int32).toInt = 24 := (by decide); have e103 : (103 : Int32).toInt = 103 := (by decide); have q_f_16 := Hide.out f_16; have q_f_25 := Hide.out f_25; have q_iv_305 := Hide.out iv_305; have q_iv_306 := Hide.out iv_306; have q_c_310 := i_nle c_310; have q_c_347 := i_nle c_347; have q_c_388 := i_le c_388; obtain ⟨u_z_390, q_z_390⟩ := i_sub ez_390; obtain ⟨u_z_273, q_z_273⟩ := i_add ez_273; have q_z_387 := i_len ez_387 f3_385; have q_z_389 := i_len ez_389 f3_385; have q_f3_98 := Hide.out f3_98; have q_f19_98 := Hide.out f19_98; have q_f20_98 := Hide.out f20_98; have q_f21_98 := Hide.out f21_98; have q_f28_98 := Hide.out f28_98; have q_f21_144 := Hide.out f21_144; have q_f21_272 := Hide.out f21_272; have q_f21_385 := Hide.out f21_385; have q_f5_98 := Hide.out f5_98; have q_f7_98 := Hide.out f7_98; have q_f7_144 := Hide.out f7_144; have q_f7_272 := Hide.out f7_272; have q_f7_385 := Hide.out f7_385; have g_c4_98 := i_rg c4_98; have g_v5_304 := i_rg v5_304; have g_x2 := i_rg x2; have g_z_273 := i_rg z_273; have g_z_387 := i_rg z_387; have g_z_389 := i_rg z_389; have g_z_390 := i_rg z_390; omega))) (cwV 1 hts (gd_V kw_127 kw_136 kw_137 kw_83 kw_135) rfl rfl rfl (by decide +kernel) ⟨Nat.le_of_ble_eq_true rfl, Nat.le_of_ble_eq_true rfl⟩) ⟨gblindH, va_recv hK hP (ci := 10) (q0 := k_1) rfl hk_384, fun U hU hW9 => gmkH hU hW9 hP hK hD hex hE hS hFc⟩ rfl rfl hl.1 rfl (lv_room (Nat.le_of_ble_eq_true rfl)) dX11_begin_229 ⟨(show dc_155_1 + (PC ws_307 + (0)) ≤ PC ws + (0) from (by have e0 : (0 : Int32).toInt = 0 := (by decide); have q_f_16 := Hide.out f_16; have q_f_25 := Hide.out f_25; omega)), (show ds_155_1 + (PS ws_307 + (0)) ≤ PS ws + (0) from (by have e0 : (0 : Int32).toInt = 0 := (by decide); have q_f_16 := Hide.out f_16; have q_f_25 := Hide.out f_25; omega))⟩) hS (fun q _ h => hFc q h) hFc (fun r_392 ws_393 t9 H1 locs ht9 hvm9 hw9 hB9 hz9 hk9 hS => ?_)
            obtain ⟨E_394, Fr_395, hG, hP1, hD1, dc_396, ds_397, hLd, hdc_396, hds_397⟩ := hB9
            rw [ht9] at hLd
            refine W_tight (hL0.tr hLd).1 (hL0.tr hLd).2.1 ?_
            clear hL0 hLd
            have hP : va_P (gD g) cl0 ws_393 H1 := by rw [← ht9]; exact hP1
            have hD : va_D A ws_393 := hD1.weaken (fun _ _ _ h => hFc _ h)
            obtain ⟨hw9, xp_398, xp_399⟩ := hw9
            clear hP1 hD1 hz9 hk9 hvm9 ht9 hw9
            generalize H1 = H at hP hS ⊢
            have aa_400 := a_r3_384
            have aa_401 := a_r4_384
            have aa_402 := a_r10_1
            have aa_403 := a_r11_1
            have aa_404 := a_r12_1
            have aa_405 := a_r13_1
            have aa_406 := a_r16_384
            have aa_407 := a_r17_384
            have aa_408 := a_r0_385
            have aa_409 := a_r5_98
            have aa_410 := a_r6_98
            have aa_411 := a_r7_385
            have aa_412 := a_r9_385
            have aa_413 := a_r10_385
            have aa_414 := a_r11_385
            have aa_415 := a_r12_385
            have aa_416 := a_r13_385
            have o_h0 := E_394.1 _ _ o_h0
            have a_r10_1 := E_394.1 _ _ a_r10_1
            obtain ⟨k_417, f_417, hk_417⟩ := gI_of a_r10_1
            obtain ⟨fs9, hk_418, hq_418⟩ := ((gF.a (F' := [(0, 0), (0, 1), (10, 5), (10, 6)]) Fr_395 (fun _ h => h))) _ _ _ hk_384
            refine opn_X11 hG hk_418 (fun r0_418 r1_418 r2_418 r3_418 n3_418 r4_418 n4_418 c5_418 c6_418 v7_418 c8_418 c9_418 r10_418 n10_418 r11_418 n11_418 r12_418 n12_418 r13_418 n13_418 r14_418 v15_418 r16_418 n16_418 r17_418 n17_418 hf9 o_r0_418 o_r1_418 o_r2_418 a_r3_418 f4_418 a_r4_418 f6_418 hz_c6_418 o_v7_418 a_r10_418 f10_418 a_r11_418 f12_418 a_r12_418 f14_418 a_r13_418 f16_418 o_r14_418 o_v15_418 a_r16_418 f20_418 a_r17_418 f22_418 f23_418 f24_418 f25_418 f26_418 f27_418 f28_418 => ?_)
            subst hf9
            obtain rfl := fe_r (hq_418 0 (by decide))
            have o_r0_1 := o_r0_418
            obtain rfl := fe_r (hq_418 1 (by decide))
            have o_r1_1 := o_r1_418
            have hn9 := fe_qr (hq_418 7 (by decide))
            subst hn9
            have o_b1 := o_v7_418 _ rfl
            obtain rfl := fe_i (hq_418 9 (by decide))
            obtain rfl := fe_r (hq_418 10 (by decide))
            have hn9 := gI_n hD ((E_394).1 _ _ aa_402) a_r10_418
            subst hn9
            have a_r10_1 := a_r10_418
            obtain rfl := fe_r (hq_418 11 (by decide))
            have hn9 := gI_n hD ((E_394).1 _ _ aa_403) a_r11_418
            subst hn9
            have a_r11_1 := a_r11_418
            obtain rfl := fe_r (hq_418 12 (by decide))
            have hn9 := gI_n hD ((E_394).1 _ _ aa_404) a_r12_418
            subst hn9
            have a_r12_1 := a_r12_418
            obtain rfl := fe_r (hq_418 13 (by decide))
            have hn9 := gI_n hD ((E_394).1 _ _ aa_405) a_r13_418
            subst hn9
            have a_r13_1 := a_r13_418
            obtain rfl := fe_q (hq_418 15 (by decide))
            have o_v15_1 := o_v15_418
            have hC9 : hol ws_393 r10_1 [(10, 10)] := (hol_u hG.u hk_418 (j := 10) rfl a_r10_1 (by decide))
            have hS9 : holS ws_393 r10_1 none := holS_n
            refine va_iast hx hb hK hP hD hS k_417 1 hk_417 rfl (i_in2 (by first | (have e0 : (0 : Int32).toInt = 0 := (by decide); have e24 : (24 : Int32).toInt = 24 := (by decide); have q_f10_1 := Hide.out f10_1; have q_f25_1 := Hide.out f25_1; have q_f_16 := Hide.out f_16; have q_f_25 := Hide.out f_25; have q_iv_305 := Hide.out iv_305; have q_iv_306 := Hide.out iv_306; have q_c_310 := i_nle c_310; have q_c_347 := i_nle c_347; have q_c_388 := i_le c_388; obtain ⟨u_z_390, q_z_390⟩ := i_sub ez_390; have g_v5_304 := i_rg v5_304; have g_z_273 := i_rg z_273; have g_z_387 := i_rg z_387; have g_z_389 := i_rg z_389; have g_z_390 := i_rg z_390; omega) | (have e0 : (0 : Int32).toInt = 0 := (by decide); have e24 : (24 : Int32).toInt = 24 := (by decide); have q_f10_1 := Hide.out f10_1; have q_f25_1 := Hide.out f25_1; have q_f_16 := Hide.out f_16; have q_f_25 := Hide.out f_25; have q_iv_305 := Hide.out iv_305; have q_iv_306 := Hide.out iv_306; have q_c_310 := i_nle c_310; have q_c_347 := i_nle c_347; have q_c_388 := i_le c_388; obtain ⟨u_z_390, q_z_390⟩ := i_sub ez_390; obtain ⟨u_z_273, q_z_273⟩ := i_add ez_273; have q_z_387 := i_len ez_387 f3_385; have q_z_389 := i_len ez_389 f3_385; have g_c4_98 := i_rg c4_98; have g_v5_304 := i_rg v5_304; have g_x2 := i_rg x2; have g_z_273 := i_rg z_273; have g_z_387 := i_rg z_387; have g_z_389 := i_rg z_389; have g_z_390 := i_rg z_390; omega) | (have e0 : (0 : Int32).toInt = 0 := (by decide); have e24 : (24 : Int32).toInt = 24 := (by decide); have q_f10_1 := Hide.out f10_1; have q_f25_1 := Hide.out f25_1; have q_f_16 := Hide.out f_16; have q_f_25 := Hide.out f_25; have q_iv_305 := Hide.out iv_305; have q_iv_306 := Hide.out iv_306; have q_c_310 := i_nle c_310; have q_c_347 := i_nle c_347; have q_c_388 := i_le c_388; obtain ⟨u_z_390, q_z_390⟩ := i_sub ez_390; obtain ⟨u_z_273, q_z_273⟩ := i_add ez_273; have q_z_387 := i_len ez_387 f3_385; have q_z_389 := i_len ez_389 f3_385; have q_f3_98 := Hide.out f3_98; have q_f19_98 := Hide.out f19_98; have q_f20_98 := Hide.out f20_98; have q_f21_98 := Hide.out f21_98; have q_f28_98 := Hide.out f28_98; have q_f21_144 := Hide.out f21_144; have q_f21_272 := Hide.out f21_272; have q_f21_385 := Hide.out f21_385; have g_c4_98 := i_rg c4_98; have g_v5_304 := i_rg v5_304; have g_x2 := i_rg x2; have g_z_273 := i_rg z_273; have g_z_387 := i_rg z_387; have g_z_389 := i_rg z_389; have g_z_390 := i_rg z_390; omega) | (have e0 : (0 : Int32).toInt = 0 := (by decide); have e24 : (24 : Int32).toInt = 24 := (by decide); have q_f10_1 := Hide.out f10_1; have q_f25_1 := Hide.out f25_1; have q_f_16 := Hide.out f_16; have q_f_25 := Hide.out f_25; have q_iv_305 := Hide.out iv_305; have q_iv_306 := Hide.out iv_306; have q_c_310 := i_nle c_310; have q_c_347 := i_nle c_347; have q_c_388 := i_le c_388; obtain ⟨u_z_390, q_z_390⟩ := i_sub ez_390; obtain ⟨u_z_273, q_z_273⟩ := i_add ez_273; have q_z_387 := i_len ez_387 f3_385; have q_z_389 := i_len ez_389 f3_385; have q_f3_98 := Hide.out f3_98; have q_f19_98 := Hide.out f19_98; have q_f20_98 := Hide.out f20_98; have q_f21_98 := Hide.out f21_98; have q_f28_98 := Hide.out f28_98; have q_f21_144 := Hide.out f21_144; have q_f21_272 := Hide.out f21_272; have q_f21_385 := Hide.out f21_385; have q_f5_98 := Hide.out f5_98; have q_f7_98 := Hide.out f7_98; have q_f7_144 := Hide.out f7_144; have q_f7_272 := Hide.out f7_272; have q_f7_385 := Hide.out f7_385; have g_c4_98 := i_rg c4_98; have g_v5_304 := i_rg v5_304; have g_x2 := i_rg x2; have g_z_273 := i_rg z_273; have g_z_387 := i_rg z_387; have g_z_389 := i_rg z_389; have g_z_390 := i_rg z_390; omega))) dX11_begin_232 (fun H locs hP hD hS => ?_)
            obtain ⟨ws_419, e_ws_419⟩ : ∃ z, z = ws_393.set k_417 (r10_1, .inl (g.cI, n10_1, .inl (upd f_417 (v5_304 : Int32).toNatClampNeg r_392))) := ⟨_, rfl⟩
            have hP : va_P (gD g) cl0 ws_419 H := by rw [e_ws_419]; exact hP
            have hD : va_D A ws_419 := by rw [e_ws_419]; exact hD
            have E_420 : gE ws_393 ws_419 := gE_ari e_ws_419 hk_417
            have hG : Good g ws_419 := Good_arI e_ws_419 hk_417 hG
            have Fr_421 : gF [] [(10, 10)] none ws_393 ws_419 := gF_ar e_ws_419 hk_417 rfl hC9 hS9
            have pp_422 := Fr_421.pp
            have hk_418 := gset_arO e_ws_419 hk_417 hk_418
            have o_h0 := E_420.1 _ _ o_h0
            have a_r10_1 := E_420.1 _ _ a_r10_1
            have o_r2_418 := E_420.1 _ _ o_r2_418
            have a_r3_418 := E_420.1 _ _ a_r3_418
            have a_r4_418 := E_420.1 _ _ a_r4_418
            have o_r14_418 := E_420.1 _ _ o_r14_418
            have a_r16_418 := E_420.1 _ _ a_r16_418
            have a_r17_418 := E_420.1 _ _ a_r17_418
            have o_r0_1 := E_420.1 _ _ o_r0_1
            have o_r1_1 := E_420.1 _ _ o_r1_1
            have o_b1 := E_420.1 _ _ o_b1
            have a_r11_1 := E_420.1 _ _ a_r11_1
            have a_r12_1 := E_420.1 _ _ a_r12_1
            have a_r13_1 := E_420.1 _ _ a_r13_1
            have o_v15_1 : ∀ b, v15_1 = some b → gC ws_419 b 7 := fun b h => E_420.1 _ _ (o_v15_1 b h)
            refine lv_aload_n hx hb dX11_begin_233 rfl (lv_at hl 1 rfl) ?_
            refine va_get (D := gD g) (ci := 10) (v := .ref r11_1) (C := RX11) (T := TX11) (N := 18) hx hb hts inX11 hown hK hP k_1 hk_418 rfl 11 (by decide) (hts _ kw_128) (fun _ h9 => h9) rfl dX11_begin_234 ?_
            refine lv_iload hx hb dX11_begin_237 (lv_at hl 3 rfl) ?_
            refine lv_iload hx hb dX11_begin_239 (lv_at hl 0 rfl) ?_
            refine lv_if_eq (tgt := 261) hx hb dX11_begin_241 (by decide) (fun _ => ?_) (fun c9 => absurd (by decide) c9)
            refine lv_aload_n hx hb dX11_begin_261 rfl (lv_at hl 1 rfl) ?_
            obtain ⟨q_423, eq_423⟩ : ∃ z, z = g.aK 1 := ⟨_, rfl⟩
            obtain ⟨n_424, en_424⟩ : ∃ z, z = sL.getD 1 0 := ⟨_, rfl⟩
            have t_q_423 : gT g q_423 n_424 := ⟨1, by decide, eq_423, en_424⟩
            refine va_ldcS (tx := "J") (q := q_423) hx hb hown (by rw [eq_423]; exact hE.2.2.2.2.2.2.2.2.2.1) dX11_begin_262 ?_
            have tq_425 : enP g ws_419 h0 := enP_mo (Fr_421) (by decide) (by decide) (by decide) xp_398
            have tq_426 : wcP ws_419 h0 0 ((10 + 8 * v5_304.toInt)) (6) := wcP_mo (Fr_421) (by decide) (by decide) (by decide) (by decide) (by decide) xp_399
            have hFc := gfree hD hS hA
            have pg_427 := ge_10_17 hD hk_418 rfl a_r17_418
            refine W_led (fun hL0 => ?_)
            refine va_calli (va_runV (As := [.ref q_423]) (rest := [.int v5_304, .ref r11_1]) ⟨hx, hb, hml, hown, hts⟩ (m_X11_textEntry l g H ws_419 h0 q_423 (n_424) ((10 + 8 * v5_304.toInt)) (6) hG o_h0 t_q_423 tq_425 tq_426 (by first | (have e0 : (0 : Int32).toInt = 0 := (by decide); have e6 : (6 : Int32).toInt = 6 := (by decide); have e24 : (24 : Int32).toInt = 24 := (by decide); have q_f_16 := Hide.out f_16; have q_f_25 := Hide.out f_25; have q_iv_305 := Hide.out iv_305; have q_iv_306 := Hide.out iv_306; have q_c_310 := i_nle c_310; have q_c_347 := i_nle c_347; have q_c_388 := i_le c_388; obtain ⟨u_z_390, q_z_390⟩ := i_sub ez_390; have g_v5_304 := i_rg v5_304; have g_z_273 := i_rg z_273; have g_z_387 := i_rg z_387; have g_z_389 := i_rg z_389; have g_z_390 := i_rg z_390; omega) | (have e0 : (0 : Int32).toInt = 0 := (by decide); have e6 : (6 : Int32).toInt = 6 := (by decide); have e24 : (24 : Int32).toInt = 24 := (by decide); have q_f_16 := Hide.out f_16; have q_f_25 := Hide.out f_25; have q_iv_305 := Hide.out iv_305; have q_iv_306 := Hide.out iv_306; have q_c_310 := i_nle c_310; have q_c_347 := i_nle c_347; have q_c_388 := i_le c_388; obtain ⟨u_z_390, q_z_390⟩ := i_sub ez_390; obtain ⟨u_z_273, q_z_273⟩ := i_add ez_273; have q_z_387 := i_len ez_387 f3_385; have q_z_389 := i_len ez_389 f3_385; have g_c4_98 := i_rg c4_98; have g_v5_304 := i_rg v5_304; have g_x2 := i_rg x2; have g_z_273 := i_rg z_273; have g_z_387 := i_rg z_387; have g_z_389 := i_rg z_389; have g_z_390 := i_rg z_390; omega) | (have e0 : (0 : Int32).toInt = 0 := (by decide); have e6 : (6 : Int32).toInt = 6 := (by decide); have e24 : (24 : Int32).toInt = 24 := (by decide); have q_f_16 := Hide.out f_16; have q_f_25 := Hide.out f_25; have q_iv_305 := Hide.out iv_305; have q_iv_306 := Hide.out iv_306; have q_c_310 := i_nle c_310; have q_c_347 := i_nle c_347; have q_c_388 := i_le c_388; obtain ⟨u_z_390, q_z_390⟩ := i_sub ez_390; obtain ⟨u_z_273, q_z_273⟩ := i_add ez_273; have q_z_387 := i_len ez_387 f3_385; have q_z_389 := i_len ez_389 f3_385; have q_f3_98 := Hide.out f3_98; have q_f19_98 := Hide.out f19_98; have q_f20_98 := Hide.out f20_98; have q_f21_98 := Hide.out f21_98; have q_f28_98 := Hide.out f28_98; have q_f21_144 := Hide.out f21_144; have q_f21_272 := Hide.out f21_272; have q_f21_385 := Hide.out f21_385; have g_c4_98 := i_rg c4_98; have g_v5_304 := i_rg v5_304; have g_x2 := i_rg x2; have g_z_273 := i_rg z_273; have g_z_387 := i_rg z_387; have g_z_389 := i_rg z_389; have g_z_390 := i_rg z_390; omega) | (have e0 : (0 : Int32).toInt = 0 := (by decide); have e6 : (6 : Int32).toInt = 6 := (by decide); have e24 : (24 : Int32).toInt = 24 := (by decide); have q_f_16 := Hide.out f_16; have q_f_25 := Hide.out f_25; have q_iv_305 := Hide.out iv_305; have q_iv_306 := Hide.out iv_306; have q_c_310 := i_nle c_310; have q_c_347 := i_nle c_347; have q_c_388 := i_le c_388; obtain ⟨u_z_390, q_z_390⟩ := i_sub ez_390; obtain ⟨u_z_273, q_z_273⟩ := i_add ez_273; have q_z_387 := i_len ez_387 f3_385; have q_z_389 := i_len ez_389 f3_385; have q_f3_98 := Hide.out f3_98; have q_f19_98 := Hide.out f19_98; have q_f20_98 := Hide.out f20_98; have q_f21_98 := Hide.out f21_98; have q_f28_98 := Hide.out f28_98; have q_f21_144 := Hide.out f21_144; have q_f21_272 := Hide.out f21_272; have q_f21_385 := Hide.out f21_385; have q_f5_98 := Hide.out f5_98; have q_f7_98 := Hide.out f7_98; have q_f7_144 := Hide.out f7_144; have q_f7_272 := Hide.out f7_272; have q_f7_385 := Hide.out f7_385; have g_c4_98 := i_rg c4_98; have g_v5_304 := i_rg v5_304; have g_x2 := i_rg x2; have g_z_273 := i_rg z_273; have g_z_387 := i_rg z_387; have g_z_389 := i_rg z_389; have g_z_390 := i_rg z_390; omega))) (cwV 1 hts (gd_V kw_119 kw_266 kw_267 kw_83 kw_265) rfl rfl rfl (by decide +kernel) ⟨Nat.le_of_ble_eq_true rfl, Nat.le_of_ble_eq_true rfl⟩) ⟨gblindH, va_recv hK hP (ci := 10) (q0 := k_1) rfl hk_418, fun U hU hW9 => gmkH hU hW9 hP hK hD hex hE hS hFc⟩ rfl rfl hl.1 rfl (lv_room (Nat.le_of_ble_eq_true rfl)) dX11_begin_264 ⟨(show dc_155_1 + dc_396 + (PC ws_419 + (0)) ≤ PC ws + (0) from (by have e0 : (0 : Int32).toInt = 0 := (by decide); have q_f_16 := Hide.out f_16; have q_f_25 := Hide.out f_25; omega)), (show ds_155_1 + ds_397 + (PS ws_419 + (0)) ≤ PS ws + (0) from (by have e0 : (0 : Int32).toInt = 0 := (by decide); have q_f_16 := Hide.out f_16; have q_f_25 := Hide.out f_25; omega))⟩) hS (fun q _ h => hFc q h) hFc (fun r_428 ws_429 t9 H1 locs ht9 hvm9 hw9 hB9 hz9 hk9 hS => ?_)
            obtain ⟨E_430, Fr_431, hG, hP1, hD1, dc_432, ds_433, hLd, hdc_432, hds_433⟩ := hB9
            rw [ht9] at hLd
            refine W_tight (hL0.tr hLd).1 (hL0.tr hLd).2.1 ?_
            clear hL0 hLd
            have hP : va_P (gD g) cl0 ws_429 H1 := by rw [← ht9]; exact hP1
            have hD : va_D A ws_429 := hD1.weaken (fun _ _ _ h => hFc _ h)
            obtain ⟨hw9, xp_434, xp_435⟩ := hw9
            clear hP1 hD1 hz9 hk9 hvm9 ht9 hw9
            generalize H1 = H at hP hS ⊢
            have aa_436 := a_r3_418
            have aa_437 := a_r4_418
            have aa_438 := a_r10_1
            have aa_439 := a_r11_1
            have aa_440 := a_r12_1
            have aa_441 := a_r13_1
            have aa_442 := a_r16_418
            have aa_443 := a_r17_418
            have o_h0 := E_430.1 _ _ o_h0
            have a_r11_1 := E_430.1 _ _ a_r11_1
            obtain ⟨k_444, f_444, hk_444⟩ := gI_of a_r11_1
            obtain ⟨fs9, hk_445, hq_445⟩ := ((gF.a (F' := [(0, 0), (0, 1), (10, 5), (10, 6)]) Fr_431 (fun _ h => h))) _ _ _ hk_418
            refine opn_X11 hG hk_445 (fun r0_445 r1_445 r2_445 r3_445 n3_445 r4_445 n4_445 c5_445 c6_445 v7_445 c8_445 c9_445 r10_445 n10_445 r11_445 n11_445 r12_445 n12_445 r13_445 n13_445 r14_445 v15_445 r16_445 n16_445 r17_445 n17_445 hf9 o_r0_445 o_r1_445 o_r2_445 a_r3_445 f4_445 a_r4_445 f6_445 hz_c6_445 o_v7_445 a_r10_445 f10_445 a_r11_445 f12_445 a_r12_445 f14_445 a_r13_445 f16_445 o_r14_445 o_v15_445 a_r16_445 f20_445 a_r17_445 f22_445 f23_445 f24_445 f25_445 f26_445 f27_445 f28_445 => ?_)
            subst hf9
            obtain rfl := fe_r (hq_445 0 (by decide))
            have o_r0_1 := o_r0_445
            obtain rfl := fe_r (hq_445 1 (by decide))
            have o_r1_1 := o_r1_445
            have hn9 := fe_qr (hq_445 7 (by decide))
            subst hn9
            have o_b1 := o_v7_445 _ rfl
            obtain rfl := fe_i (hq_445 9 (by decide))
            obtain rfl := fe_r (hq_445 10 (by decide))
            have hn9 := gI_n hD ((E_430).1 _ _ aa_438) a_r10_445
            subst hn9
            have a_r10_1 := a_r10_445
            obtain rfl := fe_r (hq_445 11 (by decide))
            have hn9 := gI_n hD ((E_430).1 _ _ aa_439) a_r11_445
            subst hn9
            have a_r11_1 := a_r11_445
            obtain rfl := fe_r (hq_445 12 (by decide))
            have hn9 := gI_n hD ((E_430).1 _ _ aa_440) a_r12_445
            subst hn9
            have a_r12_1 := a_r12_445
            obtain rfl := fe_r (hq_445 13 (by decide))
            have hn9 := gI_n hD ((E_430).1 _ _ aa_441) a_r13_445
            subst hn9
            have a_r13_1 := a_r13_445
            obtain rfl := fe_q (hq_445 15 (by decide))
            have o_v15_1 := o_v15_445
            have hC9 : hol ws_429 r11_1 [(10, 11)] := (hol_u hG.u hk_445 (j := 11) rfl a_r11_1 (by decide))
            have hS9 : holS ws_429 r11_1 none := holS_n
            refine va_iast hx hb hK hP hD hS k_444 1 hk_444 rfl (i_in2 (by first | (have e0 : (0 : Int32).toInt = 0 := (by decide); have e24 : (24 : Int32).toInt = 24 := (by decide); have q_f12_1 := Hide.out f12_1; have q_f26_1 := Hide.out f26_1; have q_f_16 := Hide.out f_16; have q_f_25 := Hide.out f_25; have q_iv_305 := Hide.out iv_305; have q_iv_306 := Hide.out iv_306; have q_c_310 := i_nle c_310; have q_c_347 := i_nle c_347; have q_c_388 := i_le c_388; obtain ⟨u_z_390, q_z_390⟩ := i_sub ez_390; have g_v5_304 := i_rg v5_304; have g_z_273 := i_rg z_273; have g_z_387 := i_rg z_387; have g_z_389 := i_rg z_389; have g_z_390 := i_rg z_390; omega) | (have e0 : (0 : Int32).toInt = 0 := (by decide); have e24 : (24 : Int32).toInt = 24 := (by decide); have q_f12_1 := Hide.out f12_1; have q_f26_1 := Hide.out f26_1; have q_f_16 := Hide.out f_16; have q_f_25 := Hide.out f_25; have q_iv_305 := Hide.out iv_305; have q_iv_306 := Hide.out iv_306; have q_c_310 := i_nle c_310; have q_c_347 := i_nle c_347; have q_c_388 := i_le c_388; obtain ⟨u_z_390, q_z_390⟩ := i_sub ez_390; obtain ⟨u_z_273, q_z_273⟩ := i_add ez_273; have q_z_387 := i_len ez_387 f3_385; have q_z_389 := i_len ez_389 f3_385; have g_c4_98 := i_rg c4_98; have g_v5_304 := i_rg v5_304; have g_x2 := i_rg x2; have g_z_273 := i_rg z_273; have g_z_387 := i_rg z_387; have g_z_389 := i_rg z_389; have g_z_390 := i_rg z_390; omega) | (have e0 : (0 : Int32).toInt = 0 := (by decide); have e24 : (24 : Int32).toInt = 24 := (by decide); have q_f12_1 := Hide.out f12_1; have q_f26_1 := Hide.out f26_1; have q_f_16 := Hide.out f_16; have q_f_25 := Hide.out f_25; have q_iv_305 := Hide.out iv_305; have q_iv_306 := Hide.out iv_306; have q_c_310 := i_nle c_310; have q_c_347 := i_nle c_347; have q_c_388 := i_le c_388; obtain ⟨u_z_390, q_z_390⟩ := i_sub ez_390; obtain ⟨u_z_273, q_z_273⟩ := i_add ez_273; have q_z_387 := i_len ez_387 f3_385; have q_z_389 := i_len ez_389 f3_385; have q_f3_98 := Hide.out f3_98; have q_f19_98 := Hide.out f19_98; have q_f20_98 := Hide.out f20_98; have q_f21_98 := Hide.out f21_98; have q_f28_98 := Hide.out f28_98; have q_f21_144 := Hide.out f21_144; have q_f21_272 := Hide.out f21_272; have q_f21_385 := Hide.out f21_385; have g_c4_98 := i_rg c4_98; have g_v5_304 := i_rg v5_304; have g_x2 := i_rg x2; have g_z_273 := i_rg z_273; have g_z_387 := i_rg z_387; have g_z_389 := i_rg z_389; have g_z_390 := i_rg z_390; omega) | (have e0 : (0 : Int32).toInt = 0 := (by decide); have e24 : (24 : Int32).toInt = 24 := (by decide); have q_f12_1 := Hide.out f12_1; have q_f26_1 := Hide.out f26_1; have q_f_16 := Hide.out f_16; have q_f_25 := Hide.out f_25; have q_iv_305 := Hide.out iv_305; have q_iv_306 := Hide.out iv_306; have q_c_310 := i_nle c_310; have q_c_347 := i_nle c_347; have q_c_388 := i_le c_388; obtain ⟨u_z_390, q_z_390⟩ := i_sub ez_390; obtain ⟨u_z_273, q_z_273⟩ := i_add ez_273; have q_z_387 := i_len ez_387 f3_385; have q_z_389 := i_len ez_389 f3_385; have q_f3_98 := Hide.out f3_98; have q_f19_98 := Hide.out f19_98; have q_f20_98 := Hide.out f20_98; have q_f21_98 := Hide.out f21_98; have q_f28_98 := Hide.out f28_98; have q_f21_144 := Hide.out f21_144; have q_f21_272 := Hide.out f21_272; have q_f21_385 := Hide.out f21_385; have q_f5_98 := Hide.out f5_98; have q_f7_98 := Hide.out f7_98; have q_f7_144 := Hide.out f7_144; have q_f7_272 := Hide.out f7_272; have q_f7_385 := Hide.out f7_385; have g_c4_98 := i_rg c4_98; have g_v5_304 := i_rg v5_304; have g_x2 := i_rg x2; have g_z_273 := i_rg z_273; have g_z_387 := i_rg z_387; have g_z_389 := i_rg z_389; have g_z_390 := i_rg z_390; omega))) dX11_begin_267 (fun H locs hP hD hS => ?_)
            obtain ⟨ws_446, e_ws_446⟩ : ∃ z, z = ws_429.set k_444 (r11_1, .inl (g.cI, n11_1, .inl (upd f_444 (v5_304 : Int32).toNatClampNeg r_428))) := ⟨_, rfl⟩
            have hP : va_P (gD g) cl0 ws_446 H := by rw [e_ws_446]; exact hP
            have hD : va_D A ws_446 := by rw [e_ws_446]; exact hD
            have E_447 : gE ws_429 ws_446 := gE_ari e_ws_446 hk_444
            have hG : Good g ws_446 := Good_arI e_ws_446 hk_444 hG
            have Fr_448 : gF [] [(10, 11)] none ws_429 ws_446 := gF_ar e_ws_446 hk_444 rfl hC9 hS9
            have pp_449 := Fr_448.pp
            have hk_445 := gset_arO e_ws_446 hk_444 hk_445
            have o_h0 := E_447.1 _ _ o_h0
            have a_r11_1 := E_447.1 _ _ a_r11_1
            have o_r2_445 := E_447.1 _ _ o_r2_445
            have a_r3_445 := E_447.1 _ _ a_r3_445
            have a_r4_445 := E_447.1 _ _ a_r4_445
            have o_r14_445 := E_447.1 _ _ o_r14_445
            have a_r16_445 := E_447.1 _ _ a_r16_445
            have a_r17_445 := E_447.1 _ _ a_r17_445
            have o_r0_1 := E_447.1 _ _ o_r0_1
            have o_r1_1 := E_447.1 _ _ o_r1_1
            have o_b1 := E_447.1 _ _ o_b1
            have a_r10_1 := E_447.1 _ _ a_r10_1
            have a_r12_1 := E_447.1 _ _ a_r12_1
            have a_r13_1 := E_447.1 _ _ a_r13_1
            have o_v15_1 : ∀ b, v15_1 = some b → gC ws_446 b 7 := fun b h => E_447.1 _ _ (o_v15_1 b h)
            refine lv_aload_n hx hb dX11_begin_268 rfl (lv_at hl 1 rfl) ?_
            refine lv_aload_n hx hb dX11_begin_269 rfl (lv_at hl 1 rfl) ?_
            refine va_get (D := gD g) (ci := 10) (v := .ref r10_1) (C := RX11) (T := TX11) (N := 18) hx hb hts inX11 hown hK hP k_1 hk_445 rfl 10 (by decide) (hts _ kw_126) (fun _ h9 => h9) rfl dX11_begin_270 ?_
            refine lv_iload hx hb dX11_begin_273 (lv_at hl 3 rfl) ?_
            obtain ⟨k_450, f_450, hk_450⟩ := gI_of a_r10_1
            refine va_iald hx hb hK hP k_450 1 hk_450 rfl (i_in2 (by first | (have e0 : (0 : Int32).toInt = 0 := (by decide); have e24 : (24 : Int32).toInt = 24 := (by decide); have q_f10_1 := Hide.out f10_1; have q_f25_1 := Hide.out f25_1; have q_f_16 := Hide.out f_16; have q_f_25 := Hide.out f_25; have q_iv_305 := Hide.out iv_305; have q_iv_306 := Hide.out iv_306; have q_c_310 := i_nle c_310; have q_c_347 := i_nle c_347; have q_c_388 := i_le c_388; obtain ⟨u_z_390, q_z_390⟩ := i_sub ez_390; have g_v5_304 := i_rg v5_304; have g_z_273 := i_rg z_273; have g_z_387 := i_rg z_387; have g_z_389 := i_rg z_389; have g_z_390 := i_rg z_390; omega) | (have e0 : (0 : Int32).toInt = 0 := (by decide); have e24 : (24 : Int32).toInt = 24 := (by decide); have q_f10_1 := Hide.out f10_1; have q_f25_1 := Hide.out f25_1; have q_f_16 := Hide.out f_16; have q_f_25 := Hide.out f_25; have q_iv_305 := Hide.out iv_305; have q_iv_306 := Hide.out iv_306; have q_c_310 := i_nle c_310; have q_c_347 := i_nle c_347; have q_c_388 := i_le c_388; obtain ⟨u_z_390, q_z_390⟩ := i_sub ez_390; obtain ⟨u_z_273, q_z_273⟩ := i_add ez_273; have q_z_387 := i_len ez_387 f3_385; have q_z_389 := i_len ez_389 f3_385; have g_c4_98 := i_rg c4_98; have g_v5_304 := i_rg v5_304; have g_x2 := i_rg x2; have g_z_273 := i_rg z_273; have g_z_387 := i_rg z_387; have g_z_389 := i_rg z_389; have g_z_390 := i_rg z_390; omega) | (have e0 : (0 : Int32).toInt = 0 := (by decide); have e24 : (24 : Int32).toInt = 24 := (by decide); have q_f10_1 := Hide.out f10_1; have q_f25_1 := Hide.out f25_1; have q_f_16 := Hide.out f_16; have q_f_25 := Hide.out f_25; have q_iv_305 := Hide.out iv_305; have q_iv_306 := Hide.out iv_306; have q_c_310 := i_nle c_310; have q_c_347 := i_nle c_347; have q_c_388 := i_le c_388; obtain ⟨u_z_390, q_z_390⟩ := i_sub ez_390; obtain ⟨u_z_273, q_z_273⟩ := i_add ez_273; have q_z_387 := i_len ez_387 f3_385; have q_z_389 := i_len ez_389 f3_385; have q_f3_98 := Hide.out f3_98; have q_f19_98 := Hide.out f19_98; have q_f20_98 := Hide.out f20_98; have q_f21_98 := Hide.out f21_98; have q_f28_98 := Hide.out f28_98; have q_f21_144 := Hide.out f21_144; have q_f21_272 := Hide.out f21_272; have q_f21_385 := Hide.out f21_385; have g_c4_98 := i_rg c4_98; have g_v5_304 := i_rg v5_304; have g_x2 := i_rg x2; have g_z_273 := i_rg z_273; have g_z_387 := i_rg z_387; have g_z_389 := i_rg z_389; have g_z_390 := i_rg z_390; omega) | (have e0 : (0 : Int32).toInt = 0 := (by decide); have e24 : (24 : Int32).toInt = 24 := (by decide); have q_f10_1 := Hide.out f10_1; have q_f25_1 := Hide.out f25_1; have q_f_16 := Hide.out f_16; have q_f_25 := Hide.out f_25; have q_iv_305 := Hide.out iv_305; have q_iv_306 := Hide.out iv_306; have q_c_310 := i_nle c_310; have q_c_347 := i_nle c_347; have q_c_388 := i_le c_388; obtain ⟨u_z_390, q_z_390⟩ := i_sub ez_390; obtain ⟨u_z_273, q_z_273⟩ := i_add ez_273; have q_z_387 := i_len ez_387 f3_385; have q_z_389 := i_len ez_389 f3_385; have q_f3_98 := Hide.out f3_98; have q_f19_98 := Hide.out f19_98; have q_f20_98 := Hide.out f20_98; have q_f21_98 := Hide.out f21_98; have q_f28_98 := Hide.out f28_98; have q_f21_144 := Hide.out f21_144; have q_f21_272 := Hide.out f21_272; have q_f21_385 := Hide.out f21_385; have q_f5_98 := Hide.out f5_98; have q_f7_98 := Hide.out f7_98; have q_f7_144 := Hide.out f7_144; have q_f7_272 := Hide.out f7_272; have q_f7_385 := Hide.out f7_385; have g_c4_98 := i_rg c4_98; have g_v5_304 := i_rg v5_304; have g_x2 := i_rg x2; have g_z_273 := i_rg z_273; have g_z_387 := i_rg z_387; have g_z_389 := i_rg z_389; have g_z_390 := i_rg z_390; omega))) dX11_begin_275 ?_
            refine lv_topi (fun z_451 ez_451 => ?_)
            refine lv_aload_n hx hb dX11_begin_276 rfl (lv_at hl 1 rfl) ?_
            refine va_get (D := gD g) (ci := 10) (v := .ref r11_1) (C := RX11) (T := TX11) (N := 18) hx hb hts inX11 hown hK hP k_1 hk_445 rfl 11 (by decide) (hts _ kw_128) (fun _ h9 => h9) rfl dX11_begin_277 ?_
            refine lv_iload hx hb dX11_begin_280 (lv_at hl 3 rfl) ?_
            obtain ⟨k_452, f_452, hk_452⟩ := gI_of a_r11_1
            refine va_iald hx hb hK hP k_452 1 hk_452 rfl (i_in2 (by first | (have e0 : (0 : Int32).toInt = 0 := (by decide); have e24 : (24 : Int32).toInt = 24 := (by decide); have q_f12_1 := Hide.out f12_1; have q_f26_1 := Hide.out f26_1; have q_f_16 := Hide.out f_16; have q_f_25 := Hide.out f_25; have q_iv_305 := Hide.out iv_305; have q_iv_306 := Hide.out iv_306; have q_c_310 := i_nle c_310; have q_c_347 := i_nle c_347; have q_c_388 := i_le c_388; obtain ⟨u_z_390, q_z_390⟩ := i_sub ez_390; have g_v5_304 := i_rg v5_304; have g_z_273 := i_rg z_273; have g_z_387 := i_rg z_387; have g_z_389 := i_rg z_389; have g_z_390 := i_rg z_390; omega) | (have e0 : (0 : Int32).toInt = 0 := (by decide); have e24 : (24 : Int32).toInt = 24 := (by decide); have q_f12_1 := Hide.out f12_1; have q_f26_1 := Hide.out f26_1; have q_f_16 := Hide.out f_16; have q_f_25 := Hide.out f_25; have q_iv_305 := Hide.out iv_305; have q_iv_306 := Hide.out iv_306; have q_c_310 := i_nle c_310; have q_c_347 := i_nle c_347; have q_c_388 := i_le c_388; obtain ⟨u_z_390, q_z_390⟩ := i_sub ez_390; obtain ⟨u_z_273, q_z_273⟩ := i_add ez_273; have q_z_387 := i_len ez_387 f3_385; have q_z_389 := i_len ez_389 f3_385; have g_c4_98 := i_rg c4_98; have g_v5_304 := i_rg v5_304; have g_x2 := i_rg x2; have g_z_273 := i_rg z_273; have g_z_387 := i_rg z_387; have g_z_389 := i_rg z_389; have g_z_390 := i_rg z_390; omega) | (have e0 : (0 : Int32).toInt = 0 := (by decide); have e24 : (24 : Int32).toInt = 24 := (by decide); have q_f12_1 := Hide.out f12_1; have q_f26_1 := Hide.out f26_1; have q_f_16 := Hide.out f_16; have q_f_25 := Hide.out f_25; have q_iv_305 := Hide.out iv_305; have q_iv_306 := Hide.out iv_306; have q_c_310 := i_nle c_310; have q_c_347 := i_nle c_347; have q_c_388 := i_le c_388; obtain ⟨u_z_390, q_z_390⟩ := i_sub ez_390; obtain ⟨u_z_273, q_z_273⟩ := i_add ez_273; have q_z_387 := i_len ez_387 f3_385; have q_z_389 := i_len ez_389 f3_385; have q_f3_98 := Hide.out f3_98; have q_f19_98 := Hide.out f19_98; have q_f20_98 := Hide.out f20_98; have q_f21_98 := Hide.out f21_98; have q_f28_98 := Hide.out f28_98; have q_f21_144 := Hide.out f21_144; have q_f21_272 := Hide.out f21_272; have q_f21_385 := Hide.out f21_385; have g_c4_98 := i_rg c4_98; have g_v5_304 := i_rg v5_304; have g_x2 := i_rg x2; have g_z_273 := i_rg z_273; have g_z_387 := i_rg z_387; have g_z_389 := i_rg z_389; have g_z_390 := i_rg z_390; omega) | (have e0 : (0 : Int32).toInt = 0 := (by decide); have e24 : (24 : Int32).toInt = 24 := (by decide); have q_f12_1 := Hide.out f12_1; have q_f26_1 := Hide.out f26_1; have q_f_16 := Hide.out f_16; have q_f_25 := Hide.out f_25; have q_iv_305 := Hide.out iv_305; have q_iv_306 := Hide.out iv_306; have q_c_310 := i_nle c_310; have q_c_347 := i_nle c_347; have q_c_388 := i_le c_388; obtain ⟨u_z_390, q_z_390⟩ := i_sub ez_390; obtain ⟨u_z_273, q_z_273⟩ := i_add ez_273; have q_z_387 := i_len ez_387 f3_385; have q_z_389 := i_len ez_389 f3_385; have q_f3_98 := Hide.out f3_98; have q_f19_98 := Hide.out f19_98; have q_f20_98 := Hide.out f20_98; have q_f21_98 := Hide.out f21_98; have q_f28_98 := Hide.out f28_98; have q_f21_144 := Hide.out f21_144; have q_f21_272 := Hide.out f21_272; have q_f21_385 := Hide.out f21_385; have q_f5_98 := Hide.out f5_98; have q_f7_98 := Hide.out f7_98; have q_f7_144 := Hide.out f7_144; have q_f7_272 := Hide.out f7_272; have q_f7_385 := Hide.out f7_385; have g_c4_98 := i_rg c4_98; have g_v5_304 := i_rg v5_304; have g_x2 := i_rg x2; have g_z_273 := i_rg z_273; have g_z_387 := i_rg z_387; have g_z_389 := i_rg z_389; have g_z_390 := i_rg z_390; omega))) dX11_begin_282 ?_
            refine lv_topi (fun z_453 ez_453 => ?_)
            refine lv_iconst (v := 0) hx hb dX11_begin_283 (by decide) ?_
            have tq_454 : wcP ws_446 h0 0 (((10 + 8 * v5_304.toInt))) (14) := wcP_mo (Fr_448) (by decide) (by decide) (by decide) (by decide) (by decide) xp_435
            have hFc := gfree hD hS hA
            have pg_455 := ge_10_17 hD hk_445 rfl a_r17_445
            refine W_led (fun hL0 => ?_)
            refine va_callv (va_runV (As := [.int z_451, .int z_453, .int 0]) (rest := []) ⟨hx, hb, hml, hown, hts⟩ (m_X11_putMember l g H ws_446 h0 (z_451) (z_453) (0) (((10 + 8 * v5_304.toInt))) (14) hG o_h0 tq_454 (by first | (have e0 : (0 : Int32).toInt = 0 := (by decide); have e14 : (14 : Int32).toInt = 14 := (by decide); have e24 : (24 : Int32).toInt = 24 := (by decide); have q_f_16 := Hide.out f_16; have q_f_25 := Hide.out f_25; have q_iv_305 := Hide.out iv_305; have q_iv_306 := Hide.out iv_306; have q_c_310 := i_nle c_310; have q_c_347 := i_nle c_347; have q_c_388 := i_le c_388; obtain ⟨u_z_390, q_z_390⟩ := i_sub ez_390; have g_v5_304 := i_rg v5_304; have g_z_273 := i_rg z_273; have g_z_387 := i_rg z_387; have g_z_389 := i_rg z_389; have g_z_390 := i_rg z_390; omega) | (have e0 : (0 : Int32).toInt = 0 := (by decide); have e14 : (14 : Int32).toInt = 14 := (by decide); have e24 : (24 : Int32).toInt = 24 := (by decide); have q_f_16 := Hide.out f_16; have q_f_25 := Hide.out f_25; have q_iv_305 := Hide.out iv_305; have q_iv_306 := Hide.out iv_306; have q_c_310 := i_nle c_310; have q_c_347 := i_nle c_347; have q_c_388 := i_le c_388; obtain ⟨u_z_390, q_z_390⟩ := i_sub ez_390; obtain ⟨u_z_273, q_z_273⟩ := i_add ez_273; have q_z_387 := i_len ez_387 f3_385; have q_z_389 := i_len ez_389 f3_385; have g_c4_98 := i_rg c4_98; have g_v5_304 := i_rg v5_304; have g_x2 := i_rg x2; have g_z_273 := i_rg z_273; have g_z_387 := i_rg z_387; have g_z_389 := i_rg z_389; have g_z_390 := i_rg z_390; omega) | (have e0 : (0 : Int32).toInt = 0 := (by decide); have e14 : (14 : Int32).toInt = 14 := (by decide); have e24 : (24 : Int32).toInt = 24 := (by decide); have q_f_16 := Hide.out f_16; have q_f_25 := Hide.out f_25; have q_iv_305 := Hide.out iv_305; have q_iv_306 := Hide.out iv_306; have q_c_310 := i_nle c_310; have q_c_347 := i_nle c_347; have q_c_388 := i_le c_388; obtain ⟨u_z_390, q_z_390⟩ := i_sub ez_390; obtain ⟨u_z_273, q_z_273⟩ := i_add ez_273; have q_z_387 := i_len ez_387 f3_385; have q_z_389 := i_len ez_389 f3_385; have q_f3_98 := Hide.out f3_98; have q_f19_98 := Hide.out f19_98; have q_f20_98 := Hide.out f20_98; have q_f21_98 := Hide.out f21_98; have q_f28_98 := Hide.out f28_98; have q_f21_144 := Hide.out f21_144; have q_f21_272 := Hide.out f21_272; have q_f21_385 := Hide.out f21_385; have g_c4_98 := i_rg c4_98; have g_v5_304 := i_rg v5_304; have g_x2 := i_rg x2; have g_z_273 := i_rg z_273; have g_z_387 := i_rg z_387; have g_z_389 := i_rg z_389; have g_z_390 := i_rg z_390; omega) | (have e0 : (0 : Int32).toInt = 0 := (by decide); have e14 : (14 : Int32).toInt = 14 := (by decide); have e24 : (24 : Int32).toInt = 24 := (by decide); have q_f_16 := Hide.out f_16; have q_f_25 := Hide.out f_25; have q_iv_305 := Hide.out iv_305; have q_iv_306 := Hide.out iv_306; have q_c_310 := i_nle c_310; have q_c_347 := i_nle c_347; have q_c_388 := i_le c_388; obtain ⟨u_z_390, q_z_390⟩ := i_sub ez_390; obtain ⟨u_z_273, q_z_273⟩ := i_add ez_273; have q_z_387 := i_len ez_387 f3_385; have q_z_389 := i_len ez_389 f3_385; have q_f3_98 := Hide.out f3_98; have q_f19_98 := Hide.out f19_98; have q_f20_98 := Hide.out f20_98; have q_f21_98 := Hide.out f21_98; have q_f28_98 := Hide.out f28_98; have q_f21_144 := Hide.out f21_144; have q_f21_272 := Hide.out f21_272; have q_f21_385 := Hide.out f21_385; have q_f5_98 := Hide.out f5_98; have q_f7_98 := Hide.out f7_98; have q_f7_144 := Hide.out f7_144; have q_f7_272 := Hide.out f7_272; have q_f7_385 := Hide.out f7_385; have g_c4_98 := i_rg c4_98; have g_v5_304 := i_rg v5_304; have g_x2 := i_rg x2; have g_z_273 := i_rg z_273; have g_z_387 := i_rg z_387; have g_z_389 := i_rg z_389; have g_z_390 := i_rg z_390; omega))) (cwV 3 hts (gd_V kw_90 kw_258 kw_259 kw_83 kw_257) rfl rfl rfl (by decide +kernel) ⟨Nat.le_of_ble_eq_true rfl, Nat.le_of_ble_eq_true rfl⟩) ⟨gblindH, va_recv hK hP (ci := 10) (q0 := k_1) rfl hk_445, fun U hU hW9 => gmkH hU hW9 hP hK hD hex hE hS hFc⟩ rfl rfl hl.1 rfl (lv_room (Nat.le_of_ble_eq_true rfl)) dX11_begin_284 ⟨(show dc_155_1 + dc_396 + dc_432 + (PC ws_446 + (0)) ≤ PC ws + (0) from (by have e0 : (0 : Int32).toInt = 0 := (by decide); have q_f_16 := Hide.out f_16; have q_f_25 := Hide.out f_25; omega)), (show ds_155_1 + ds_397 + ds_433 + (PS ws_446 + (0)) ≤ PS ws + (0) from (by have e0 : (0 : Int32).toInt = 0 := (by decide); have q_f_16 := Hide.out f_16; have q_f_25 := Hide.out f_25; omega))⟩) hS (fun q _ h => hFc q h) hFc (fun  ws_456 t9 H1 locs ht9 hvm9 hw9 hB9 hz9 hk9 hS => ?_)
            obtain ⟨E_457, Fr_458, hG, hP1, hD1, dc_459, ds_460, hLd, hdc_459, hds_460⟩ := hB9
            rw [ht9] at hLd
            refine W_tight (hL0.tr hLd).1 (hL0.tr hLd).2.1 ?_
            clear hL0 hLd
            have hP : va_P (gD g) cl0 ws_456 H1 := by rw [← ht9]; exact hP1
            have hD : va_D A ws_456 := hD1.weaken (fun _ _ _ h => hFc _ h)
            obtain ⟨hw9, xp_461⟩ := hw9
            clear hP1 hD1 hz9 hk9 hvm9 ht9 hw9
            generalize H1 = H at hP hS ⊢
            have aa_462 := a_r3_445
            have aa_463 := a_r4_445
            have aa_464 := a_r10_1
            have aa_465 := a_r11_1
            have aa_466 := a_r12_1
            have aa_467 := a_r13_1
            have aa_468 := a_r16_445
            have aa_469 := a_r17_445
            have o_h0 := E_457.1 _ _ o_h0
            obtain ⟨z_470, ez_470⟩ : ∃ z : Int32, v5_304 + Int32.ofInt 1 = z := ⟨_, rfl⟩
            refine lv_iinc (v := z_470) (lv' := [(5, .int z_470), (6, .int 0), (0, .ref h0), (4, .int z_273)]) hx hb dX11_begin_287 hl (k := 3) rfl ez_470 (by decide) rfl (fun ls hl => ?_)
            refine lv_goto (tgt := 155) hx hb dX11_begin_290 (by decide) ?_
            have tq_471 : enP g ws_456 h0 := enP_mo ((gF.tr (gF.mo (F' := [(0, 0), (0, 1)]) (C' := [(0, 0), (6, 0), (10, 11)]) (S' := none) Fr_448 (fun _ h => absurd h List.not_mem_nil) (by decide) (Or.inr rfl)) (gF.mo (F' := [(0, 0), (0, 1)]) (C' := [(0, 0), (6, 0), (10, 11)]) (S' := none) Fr_458 (fun _ h => h) (by decide) (Or.inr rfl)))) (by decide) (by decide) (by decide) xp_434
            have tq_472 : wcP ws_456 h0 0 (10 + 8 * z_470.toInt) (103) := wcP_le (by have e0 : (0 : Int32).toInt = 0 := (by decide); have q_f_16 := Hide.out f_16; have q_f_25 := Hide.out f_25; have e09 : (0 : Int32).toInt = 0 := rfl; omega) (by first | (have e0 : (0 : Int32).toInt = 0 := (by decide); have e24 : (24 : Int32).toInt = 24 := (by decide); have q_f_16 := Hide.out f_16; have q_f_25 := Hide.out f_25; have q_iv_305 := Hide.out iv_305; have q_iv_306 := Hide.out iv_306; have q_c_310 := i_nle c_310; have q_c_347 := i_nle c_347; have q_c_388 := i_le c_388; obtain ⟨u_z_390, q_z_390⟩ := i_sub ez_390; obtain ⟨u_z_470, q_z_470⟩ := i_iz ez_470 (by decide) (by decide); have g_v5_304 := i_rg v5_304; have g_z_273 := i_rg z_273; have g_z_387 := i_rg z_387; have g_z_389 := i_rg z_389; have g_z_390 := i_rg z_390; have g_z_470 := i_rg z_470; have e09 : (0 : Int32).toInt = 0 := rfl; omega) | (have e0 : (0 : Int32).toInt = 0 := (by decide); have e24 : (24 : Int32).toInt = 24 := (by decide); have q_f_16 := Hide.out f_16; have q_f_25 := Hide.out f_25; have q_iv_305 := Hide.out iv_305; have q_iv_306 := Hide.out iv_306; have q_c_310 := i_nle c_310; have q_c_347 := i_nle c_347; have q_c_388 := i_le c_388; obtain ⟨u_z_390, q_z_390⟩ := i_sub ez_390; obtain ⟨u_z_470, q_z_470⟩ := i_iz ez_470 (by decide) (by decide); obtain ⟨u_z_273, q_z_273⟩ := i_add ez_273; have q_z_387 := i_len ez_387 f3_385; have q_z_389 := i_len ez_389 f3_385; have g_c4_98 := i_rg c4_98; have g_v5_304 := i_rg v5_304; have g_x2 := i_rg x2; have g_z_273 := i_rg z_273; have g_z_387 := i_rg z_387; have g_z_389 := i_rg z_389; have g_z_390 := i_rg z_390; have g_z_470 := i_rg z_470; have e09 : (0 : Int32).toInt = 0 := rfl; omega) | (have e0 : (0 : Int32).toInt = 0 := (by decide); have e24 : (24 : Int32).toInt = 24 := (by decide); have q_f_16 := Hide.out f_16; have q_f_25 := Hide.out f_25; have q_iv_305 := Hide.out iv_305; have q_iv_306 := Hide.out iv_306; have q_c_310 := i_nle c_310; have q_c_347 := i_nle c_347; have q_c_388 := i_le c_388; obtain ⟨u_z_390, q_z_390⟩ := i_sub ez_390; obtain ⟨u_z_470, q_z_470⟩ := i_iz ez_470 (by decide) (by decide); obtain ⟨u_z_273, q_z_273⟩ := i_add ez_273; have q_z_387 := i_len ez_387 f3_385; have q_z_389 := i_len ez_389 f3_385; have q_f3_98 := Hide.out f3_98; have q_f19_98 := Hide.out f19_98; have q_f20_98 := Hide.out f20_98; have q_f21_98 := Hide.out f21_98; have q_f28_98 := Hide.out f28_98; have q_f21_144 := Hide.out f21_144; have q_f21_272 := Hide.out f21_272; have q_f21_385 := Hide.out f21_385; have g_c4_98 := i_rg c4_98; have g_v5_304 := i_rg v5_304; have g_x2 := i_rg x2; have g_z_273 := i_rg z_273; have g_z_387 := i_rg z_387; have g_z_389 := i_rg z_389; have g_z_390 := i_rg z_390; have g_z_470 := i_rg z_470; have e09 : (0 : Int32).toInt = 0 := rfl; omega) | (have e0 : (0 : Int32).toInt = 0 := (by decide); have e24 : (24 : Int32).toInt = 24 := (by decide); have q_f_16 := Hide.out f_16; have q_f_25 := Hide.out f_25; have q_iv_305 := Hide.out iv_305; have q_iv_306 := Hide.out iv_306; have q_c_310 := i_nle c_310; have q_c_347 := i_nle c_347; have q_c_388 := i_le c_388; obtain ⟨u_z_390, q_z_390⟩ := i_sub ez_390; obtain ⟨u_z_470, q_z_470⟩ := i_iz ez_470 (by decide) (by decide); obtain ⟨u_z_273, q_z_273⟩ := i_add ez_273; have q_z_387 := i_len ez_387 f3_385; have q_z_389 := i_len ez_389 f3_385; have q_f3_98 := Hide.out f3_98; have q_f19_98 := Hide.out f19_98; have q_f20_98 := Hide.out f20_98; have q_f21_98 := Hide.out f21_98; have q_f28_98 := Hide.out f28_98; have q_f21_144 := Hide.out f21_144; have q_f21_272 := Hide.out f21_272; have q_f21_385 := Hide.out f21_385; have q_f5_98 := Hide.out f5_98; have q_f7_98 := Hide.out f7_98; have q_f7_144 := Hide.out f7_144; have q_f7_272 := Hide.out f7_272; have q_f7_385 := Hide.out f7_385; have g_c4_98 := i_rg c4_98; have g_v5_304 := i_rg v5_304; have g_x2 := i_rg x2; have g_z_273 := i_rg z_273; have g_z_387 := i_rg z_387; have g_z_389 := i_rg z_389; have g_z_390 := i_rg z_390; have g_z_470 := i_rg z_470; have e09 : (0 : Int32).toInt = 0 := rfl; omega)) (by have e0 : (0 : Int32).toInt = 0 := (by decide); have e103 : (103 : Int32).toInt = 103 := (by decide); have q_f_16 := Hide.out f_16; have q_f_25 := Hide.out f_25; have e09 : (0 : Int32).toInt = 0 := rfl; omega) xp_461
            obtain ⟨fs9, hk_473, hq_473⟩ := ((gF.a (F' := [(0, 0), (0, 1)]) Fr_458 (fun _ h => h))) _ _ _ hk_445
            refine opn_X11 hG hk_473 (fun r0_473 r1_473 r2_473 r3_473 n3_473 r4_473 n4_473 c5_473 c6_473 v7_473 c8_473 c9_473 r10_473 n10_473 r11_473 n11_473 r12_473 n12_473 r13_473 n13_473 r14_473 v15_473 r16_473 n16_473 r17_473 n17_473 hf9 o_r0_473 o_r1_473 o_r2_473 a_r3_473 f4_473 a_r4_473 f6_473 hz_c6_473 o_v7_473 a_r10_473 f10_473 a_r11_473 f12_473 a_r12_473 f14_473 a_r13_473 f16_473 o_r14_473 o_v15_473 a_r16_473 f20_473 a_r17_473 f22_473 f23_473 f24_473 f25_473 f26_473 f27_473 f28_473 => ?_)
            subst hf9
            obtain rfl := fe_r (hq_473 0 (by decide))
            have o_r0_1 := o_r0_473
            obtain rfl := fe_r (hq_473 1 (by decide))
            have o_r1_1 := o_r1_473
            have hn9 := fe_qr (hq_473 7 (by decide))
            subst hn9
            have o_b1 := o_v7_473 _ rfl
            obtain rfl := fe_i (hq_473 9 (by decide))
            obtain rfl := fe_r (hq_473 10 (by decide))
            have hn9 := gI_n hD ((E_457).1 _ _ aa_464) a_r10_473
            subst hn9
            have a_r10_1 := a_r10_473
            obtain rfl := fe_r (hq_473 11 (by decide))
            have hn9 := gI_n hD ((E_457).1 _ _ aa_465) a_r11_473
            subst hn9
            have a_r11_1 := a_r11_473
            obtain rfl := fe_r (hq_473 12 (by decide))
            have hn9 := gI_n hD ((E_457).1 _ _ aa_466) a_r12_473
            subst hn9
            have a_r12_1 := a_r12_473
            obtain rfl := fe_r (hq_473 13 (by decide))
            have hn9 := gI_n hD ((E_457).1 _ _ aa_467) a_r13_473
            subst hn9
            have a_r13_1 := a_r13_473
            obtain rfl := fe_q (hq_473 15 (by decide))
            have o_v15_1 := o_v15_473
            exact ih_155 _ (by first | (have e0 : (0 : Int32).toInt = 0 := (by decide); have q_f_16 := Hide.out f_16; have q_f_25 := Hide.out f_25; obtain ⟨u_z_470, q_z_470⟩ := i_iz ez_470 (by decide) (by decide); have g_v5_304 := i_rg v5_304; have g_z_470 := i_rg z_470; omega) | (have e0 : (0 : Int32).toInt = 0 := (by decide); have e24 : (24 : Int32).toInt = 24 := (by decide); have q_f_16 := Hide.out f_16; have q_f_25 := Hide.out f_25; obtain ⟨u_z_470, q_z_470⟩ := i_iz ez_470 (by decide) (by decide); have q_iv_305 := Hide.out iv_305; have q_iv_306 := Hide.out iv_306; have q_c_310 := i_nle c_310; have q_c_347 := i_nle c_347; have q_c_388 := i_le c_388; obtain ⟨u_z_390, q_z_390⟩ := i_sub ez_390; have g_v5_304 := i_rg v5_304; have g_z_273 := i_rg z_273; have g_z_387 := i_rg z_387; have g_z_389 := i_rg z_389; have g_z_390 := i_rg z_390; have g_z_470 := i_rg z_470; omega) | (have e0 : (0 : Int32).toInt = 0 := (by decide); have e24 : (24 : Int32).toInt = 24 := (by decide); have q_f_16 := Hide.out f_16; have q_f_25 := Hide.out f_25; obtain ⟨u_z_470, q_z_470⟩ := i_iz ez_470 (by decide) (by decide); have q_iv_305 := Hide.out iv_305; have q_iv_306 := Hide.out iv_306; have q_c_310 := i_nle c_310; have q_c_347 := i_nle c_347; have q_c_388 := i_le c_388; obtain ⟨u_z_390, q_z_390⟩ := i_sub ez_390; obtain ⟨u_z_273, q_z_273⟩ := i_add ez_273; have q_z_387 := i_len ez_387 f3_385; have q_z_389 := i_len ez_389 f3_385; have g_c4_98 := i_rg c4_98; have g_v5_304 := i_rg v5_304; have g_x2 := i_rg x2; have g_z_273 := i_rg z_273; have g_z_387 := i_rg z_387; have g_z_389 := i_rg z_389; have g_z_390 := i_rg z_390; have g_z_470 := i_rg z_470; omega) | (have e0 : (0 : Int32).toInt = 0 := (by decide); have e24 : (24 : Int32).toInt = 24 := (by decide); have q_f_16 := Hide.out f_16; have q_f_25 := Hide.out f_25; obtain ⟨u_z_470, q_z_470⟩ := i_iz ez_470 (by decide) (by decide); have q_iv_305 := Hide.out iv_305; have q_iv_306 := Hide.out iv_306; have q_c_310 := i_nle c_310; have q_c_347 := i_nle c_347; have q_c_388 := i_le c_388; obtain ⟨u_z_390, q_z_390⟩ := i_sub ez_390; obtain ⟨u_z_273, q_z_273⟩ := i_add ez_273; have q_z_387 := i_len ez_387 f3_385; have q_z_389 := i_len ez_389 f3_385; have q_f3_98 := Hide.out f3_98; have q_f19_98 := Hide.out f19_98; have q_f20_98 := Hide.out f20_98; have q_f21_98 := Hide.out f21_98; have q_f28_98 := Hide.out f28_98; have q_f21_144 := Hide.out f21_144; have q_f21_272 := Hide.out f21_272; have q_f21_385 := Hide.out f21_385; have g_c4_98 := i_rg c4_98; have g_v5_304 := i_rg v5_304; have g_x2 := i_rg x2; have g_z_273 := i_rg z_273; have g_z_387 := i_rg z_387; have g_z_389 := i_rg z_389; have g_z_390 := i_rg z_390; have g_z_470 := i_rg z_470; omega)) (z_470) (dc_155_1 + dc_396 + dc_432 + dc_459) (ds_155_1 + ds_397 + ds_433 + ds_460) ws_456 H locs ls rfl (by first | (have e0 : (0 : Int32).toInt = 0 := (by decide); have q_f_16 := Hide.out f_16; have q_f_25 := Hide.out f_25; obtain ⟨u_z_470, q_z_470⟩ := i_iz ez_470 (by decide) (by decide); have g_v5_304 := i_rg v5_304; have g_z_470 := i_rg z_470; omega) | (have e0 : (0 : Int32).toInt = 0 := (by decide); have e24 : (24 : Int32).toInt = 24 := (by decide); have q_f_16 := Hide.out f_16; have q_f_25 := Hide.out f_25; obtain ⟨u_z_470, q_z_470⟩ := i_iz ez_470 (by decide) (by decide); have q_iv_305 := Hide.out iv_305; have q_iv_306 := Hide.out iv_306; have q_c_310 := i_nle c_310; have q_c_347 := i_nle c_347; have q_c_388 := i_le c_388; obtain ⟨u_z_390, q_z_390⟩ := i_sub ez_390; have g_v5_304 := i_rg v5_304; have g_z_273 := i_rg z_273; have g_z_387 := i_rg z_387; have g_z_389 := i_rg z_389; have g_z_390 := i_rg z_390; have g_z_470 := i_rg z_470; omega) | (have e0 : (0 : Int32).toInt = 0 := (by decide); have e24 : (24 : Int32).toInt = 24 := (by decide); have q_f_16 := Hide.out f_16; have q_f_25 := Hide.out f_25; obtain ⟨u_z_470, q_z_470⟩ := i_iz ez_470 (by decide) (by decide); have q_iv_305 := Hide.out iv_305; have q_iv_306 := Hide.out iv_306; have q_c_310 := i_nle c_310; have q_c_347 := i_nle c_347; have q_c_388 := i_le c_388; obtain ⟨u_z_390, q_z_390⟩ := i_sub ez_390; obtain ⟨u_z_273, q_z_273⟩ := i_add ez_273; have q_z_387 := i_len ez_387 f3_385; have q_z_389 := i_len ez_389 f3_385; have g_c4_98 := i_rg c4_98; have g_v5_304 := i_rg v5_304; have g_x2 := i_rg x2; have g_z_273 := i_rg z_273; have g_z_387 := i_rg z_387; have g_z_389 := i_rg z_389; have g_z_390 := i_rg z_390; have g_z_470 := i_rg z_470; omega) | (have e0 : (0 : Int32).toInt = 0 := (by decide); have e24 : (24 : Int32).toInt = 24 := (by decide); have q_f_16 := Hide.out f_16; have q_f_25 := Hide.out f_25; obtain ⟨u_z_470, q_z_470⟩ := i_iz ez_470 (by decide) (by decide); have q_iv_305 := Hide.out iv_305; have q_iv_306 := Hide.out iv_306; have q_c_310 := i_nle c_310; have q_c_347 := i_nle c_347; have q_c_388 := i_le c_388; obtain ⟨u_z_390, q_z_390⟩ := i_sub ez_390; obtain ⟨u_z_273, q_z_273⟩ := i_add ez_273; have q_z_387 := i_len ez_387 f3_385; have q_z_389 := i_len ez_389 f3_385; have q_f3_98 := Hide.out f3_98; have q_f19_98 := Hide.out f19_98; have q_f20_98 := Hide.out f20_98; have q_f21_98 := Hide.out f21_98; have q_f28_98 := Hide.out f28_98; have q_f21_144 := Hide.out f21_144; have q_f21_272 := Hide.out f21_272; have q_f21_385 := Hide.out f21_385; have g_c4_98 := i_rg c4_98; have g_v5_304 := i_rg v5_304; have g_x2 := i_rg x2; have g_z_273 := i_rg z_273; have g_z_387 := i_rg z_387; have g_z_389 := i_rg z_389; have g_z_390 := i_rg z_390; have g_z_470 := i_rg z_470; omega)) (by first | (have e0 : (0 : Int32).toInt = 0 := (by decide); have q_f_16 := Hide.out f_16; have q_f_25 := Hide.out f_25; obtain ⟨u_z_273, q_z_273⟩ := i_add ez_273; have q_c_310 := i_nle c_310; obtain ⟨u_z_470, q_z_470⟩ := i_iz ez_470 (by decide) (by decide); have g_c4_98 := i_rg c4_98; have g_v5_304 := i_rg v5_304; have g_x2 := i_rg x2; have g_z_273 := i_rg z_273; have g_z_470 := i_rg z_470; omega) | (have e0 : (0 : Int32).toInt = 0 := (by decide); have e24 : (24 : Int32).toInt = 24 := (by decide); have q_f_16 := Hide.out f_16; have q_f_25 := Hide.out f_25; obtain ⟨u_z_273, q_z_273⟩ := i_add ez_273; have q_c_310 := i_nle c_310; obtain ⟨u_z_470, q_z_470⟩ := i_iz ez_470 (by decide) (by decide); have q_f19_98 := Hide.out f19_98; have q_iv_305 := Hide.out iv_305; have q_iv_306 := Hide.out iv_306; have q_c_347 := i_nle c_347; have q_c_388 := i_le c_388; obtain ⟨u_z_390, q_z_390⟩ := i_sub ez_390; have g_c4_98 := i_rg c4_98; have g_v5_304 := i_rg v5_304; have g_x2 := i_rg x2; have g_z_273 := i_rg z_273; have g_z_387 := i_rg z_387; have g_z_389 := i_rg z_389; have g_z_390 := i_rg z_390; have g_z_470 := i_rg z_470; omega) | (have e0 : (0 : Int32).toInt = 0 := (by decide); have e24 : (24 : Int32).toInt = 24 := (by decide); have q_f_16 := Hide.out f_16; have q_f_25 := Hide.out f_25; obtain ⟨u_z_273, q_z_273⟩ := i_add ez_273; have q_c_310 := i_nle c_310; obtain ⟨u_z_470, q_z_470⟩ := i_iz ez_470 (by decide) (by decide); have q_f19_98 := Hide.out f19_98; have q_iv_305 := Hide.out iv_305; have q_iv_306 := Hide.out iv_306; have q_c_347 := i_nle c_347; have q_c_388 := i_le c_388; obtain ⟨u_z_390, q_z_390⟩ := i_sub ez_390; have q_f3_98 := Hide.out f3_98; have q_f20_98 := Hide.out f20_98; have q_f21_98 := Hide.out f21_98; have q_f28_98 := Hide.out f28_98; have q_f21_144 := Hide.out f21_144; have q_f21_272 := Hide.out f21_272; have q_f21_385 := Hide.out f21_385; have q_z_387 := i_len ez_387 f3_385; have q_z_389 := i_len ez_389 f3_385; have g_c4_98 := i_rg c4_98; have g_v5_304 := i_rg v5_304; have g_x2 := i_rg x2; have g_z_273 := i_rg z_273; have g_z_387 := i_rg z_387; have g_z_389 := i_rg z_389; have g_z_390 := i_rg z_390; have g_z_470 := i_rg z_470; omega) | (have e0 : (0 : Int32).toInt = 0 := (by decide); have e24 : (24 : Int32).toInt = 24 := (by decide); have q_f_16 := Hide.out f_16; have q_f_25 := Hide.out f_25; obtain ⟨u_z_273, q_z_273⟩ := i_add ez_273; have q_c_310 := i_nle c_310; obtain ⟨u_z_470, q_z_470⟩ := i_iz ez_470 (by decide) (by decide); have q_f19_98 := Hide.out f19_98; have q_iv_305 := Hide.out iv_305; have q_iv_306 := Hide.out iv_306; have q_c_347 := i_nle c_347; have q_c_388 := i_le c_388; obtain ⟨u_z_390, q_z_390⟩ := i_sub ez_390; have q_f3_98 := Hide.out f3_98; have q_f20_98 := Hide.out f20_98; have q_f21_98 := Hide.out f21_98; have q_f28_98 := Hide.out f28_98; have q_f21_144 := Hide.out f21_144; have q_f21_272 := Hide.out f21_272; have q_f21_385 := Hide.out f21_385; have q_z_387 := i_len ez_387 f3_385; have q_z_389 := i_len ez_389 f3_385; have q_f5_98 := Hide.out f5_98; have q_f7_98 := Hide.out f7_98; have q_f7_144 := Hide.out f7_144; have q_f7_272 := Hide.out f7_272; have q_f7_385 := Hide.out f7_385; have g_c4_98 := i_rg c4_98; have g_v5_304 := i_rg v5_304; have g_x2 := i_rg x2; have g_z_273 := i_rg z_273; have g_z_387 := i_rg z_387; have g_z_389 := i_rg z_389; have g_z_390 := i_rg z_390; have g_z_470 := i_rg z_470; omega)) ((E_308.tr (E_394.tr (E_420.tr (E_430.tr (E_447.tr E_457)))))) ((gF.tr Fr_309 (gF.tr (gF.mo (F' := [(0, 0), (0, 1), (10, 5), (10, 6)]) (C' := [(0, 0), (6, 0), (10, 3), (10, 4), (10, 10), (10, 11)]) (S' := none) Fr_395 (fun _ h => h) (by decide) (Or.inr rfl)) (gF.tr (gF.mo (F' := [(0, 0), (0, 1), (10, 5), (10, 6)]) (C' := [(0, 0), (6, 0), (10, 3), (10, 4), (10, 10), (10, 11)]) (S' := none) Fr_421 (fun _ h => absurd h List.not_mem_nil) (by decide) (Or.inr rfl)) (gF.tr (gF.mo (F' := [(0, 0), (0, 1), (10, 5), (10, 6)]) (C' := [(0, 0), (6, 0), (10, 3), (10, 4), (10, 10), (10, 11)]) (S' := none) Fr_431 (fun _ h => h) (by decide) (Or.inr rfl)) (gF.tr (gF.mo (F' := [(0, 0), (0, 1), (10, 5), (10, 6)]) (C' := [(0, 0), (6, 0), (10, 3), (10, 4), (10, 10), (10, 11)]) (S' := none) Fr_448 (fun _ h => absurd h List.not_mem_nil) (by decide) (Or.inr rfl)) (gF.mo (F' := [(0, 0), (0, 1), (10, 5), (10, 6)]) (C' := [(0, 0), (6, 0), (10, 3), (10, 4), (10, 10), (10, 11)]) (S' := none) Fr_458 (by decide) (by decide) (Or.inr rfl)))))))) hG (by have e0 : (0 : Int32).toInt = 0 := (by decide); have q_f_16 := Hide.out f_16; have q_f_25 := Hide.out f_25; omega) (by have e0 : (0 : Int32).toInt = 0 := (by decide); have q_f_16 := Hide.out f_16; have q_f_25 := Hide.out f_25; omega) tq_471 tq_472 (gN_of hD hk_473 (j := 7) rfl) hP hD hS (lv_sub hl [2, 3, 0] rfl)
          · refine lv_iconst (v := 1) hx hb dX11_begin_182 (by decide) ?_
            refine lv_goto (tgt := 187) hx hb dX11_begin_183 (by decide) ?_
            refine lv_istore (lv' := [(6, .int 1), (0, .ref h0), (4, .int z_273), (5, .int v5_304)]) hx hb dX11_begin_187 hl (by decide) rfl (fun ls hl => ?_)
            refine lv_aload_n hx hb dX11_begin_189 rfl (lv_at hl 1 rfl) ?_
            refine va_get (D := gD g) (ci := 10) (v := .ref r10_1) (C := RX11) (T := TX11) (N := 18) hx hb hts inX11 hown hK hP k_1 hk_384 rfl 10 (by decide) (hts _ kw_126) (fun _ h9 => h9) rfl dX11_begin_190 ?_
            refine lv_iload hx hb dX11_begin_193 (lv_at hl 3 rfl) ?_
            refine lv_iload hx hb dX11_begin_195 (lv_at hl 0 rfl) ?_
            refine lv_if_eq (tgt := 217) hx hb dX11_begin_197 (by decide) (fun c9 => absurd c9 (by decide)) (fun _ => ?_)
            refine lv_aload_n hx hb dX11_begin_200 rfl (lv_at hl 1 rfl) ?_
            refine lv_aload_n hx hb dX11_begin_201 rfl (lv_at hl 1 rfl) ?_
            refine va_get (D := gD g) (ci := 10) (v := .ref b1) (C := RX11) (T := TX11) (N := 18) hx hb hts inX11 hown hK hP k_1 hk_384 rfl 7 (by decide) (hts _ kw_86) (fun _ h9 => h9) rfl dX11_begin_202 ?_
            refine va_get (D := gD g) (ci := 9) (v := .ref r5_98) (C := RX10) (T := TX10) (N := 18) hx hb hts inX10 hown hK hP k_98 hk_385 rfl 5 (by decide) (hts _ kw_125) (fun _ h9 => h9) rfl dX11_begin_205 ?_
            refine lv_iload hx hb dX11_begin_208 (lv_at hl 3 rfl) ?_
            refine va_iald hx hb hK hP k_386 1 hk_386 rfl (i_in2 (by first | (have e0 : (0 : Int32).toInt = 0 := (by decide); have e24 : (24 : Int32).toInt = 24 := (by decide); have q_f_16 := Hide.out f_16; have q_f_25 := Hide.out f_25; have q_f3_98 := Hide.out f3_98; have q_f19_98 := Hide.out f19_98; have q_f20_98 := Hide.out f20_98; have q_f21_98 := Hide.out f21_98; have q_f28_98 := Hide.out f28_98; have q_f21_144 := Hide.out f21_144; have q_f21_272 := Hide.out f21_272; have q_iv_305 := Hide.out iv_305; have q_iv_306 := Hide.out iv_306; have q_c_310 := i_nle c_310; have q_c_347 := i_nle c_347; have q_f21_385 := Hide.out f21_385; have q_z_387 := i_len ez_387 f3_385; have q_c_388 := i_nle c_388; have g_c4_98 := i_rg c4_98; have g_v5_304 := i_rg v5_304; have g_z_273 := i_rg z_273; have g_z_387 := i_rg z_387; omega) | (have e0 : (0 : Int32).toInt = 0 := (by decide); have e24 : (24 : Int32).toInt = 24 := (by decide); have q_f_16 := Hide.out f_16; have q_f_25 := Hide.out f_25; have q_f3_98 := Hide.out f3_98; have q_f19_98 := Hide.out f19_98; have q_f20_98 := Hide.out f20_98; have q_f21_98 := Hide.out f21_98; have q_f28_98 := Hide.out f28_98; have q_f21_144 := Hide.out f21_144; have q_f21_272 := Hide.out f21_272; have q_iv_305 := Hide.out iv_305; have q_iv_306 := Hide.out iv_306; have q_c_310 := i_nle c_310; have q_c_347 := i_nle c_347; have q_f21_385 := Hide.out f21_385; have q_z_387 := i_len ez_387 f3_385; have q_c_388 := i_nle c_388; have q_f5_98 := Hide.out f5_98; have q_f7_98 := Hide.out f7_98; have q_f7_144 := Hide.out f7_144; have q_f7_272 := Hide.out f7_272; obtain ⟨u_z_273, q_z_273⟩ := i_add ez_273; have q_f7_385 := Hide.out f7_385; have g_c4_98 := i_rg c4_98; have g_v5_304 := i_rg v5_304; have g_x2 := i_rg x2; have g_z_273 := i_rg z_273; have g_z_387 := i_rg z_387; omega))) dX11_begin_210 ?_
            refine lv_topi (fun z_474 ez_474 => ?_)
            have tq_475 : nlA5 ws_307 h0 := nlA5_mo ((gF.tr (gF.mo (F' := [(0, 0), (0, 1), (10, 5), (10, 6), (10, 8), (10, 9)]) (C' := [(0, 0), (6, 0), (10, 3), (10, 4), (10, 10), (10, 11), (10, 12), (10, 13)]) (S' := none) Fr_21 (by decide) (fun _ h => absurd h List.not_mem_nil) (Or.inl rfl)) (gF.tr (gF.mo (F' := [(0, 0), (0, 1), (10, 5), (10, 6), (10, 8), (10, 9)]) (C' := [(0, 0), (6, 0), (10, 3), (10, 4), (10, 10), (10, 11), (10, 12), (10, 13)]) (S' := none) Fr_30 (by decide) (fun _ h => absurd h List.not_mem_nil) (Or.inl rfl)) (gF.tr (gF.mo (F' := [(0, 0), (0, 1), (10, 5), (10, 6), (10, 8), (10, 9)]) (C' := [(0, 0), (6, 0), (10, 3), (10, 4), (10, 10), (10, 11), (10, 12), (10, 13)]) (S' := none) Fr_37 (by decide) (fun _ h => absurd h List.not_mem_nil) (Or.inl rfl)) (gF.tr (gF.mo (F' := [(0, 0), (0, 1), (10, 5), (10, 6), (10, 8), (10, 9)]) (C' := [(0, 0), (6, 0), (10, 3), (10, 4), (10, 10), (10, 11), (10, 12), (10, 13)]) (S' := none) Fr_45 (by decide) (fun _ h => absurd h List.not_mem_nil) (Or.inl rfl)) (gF.tr (gF.mo (F' := [(0, 0), (0, 1), (10, 5), (10, 6), (10, 8), (10, 9)]) (C' := [(0, 0), (6, 0), (10, 3), (10, 4), (10, 10), (10, 11), (10, 12), (10, 13)]) (S' := none) Fr_49 (fun _ h => absurd h List.not_mem_nil) (by decide) (Or.inr rfl)) (gF.tr (gF.mo (F' := [(0, 0), (0, 1), (10, 5), (10, 6), (10, 8), (10, 9)]) (C' := [(0, 0), (6, 0), (10, 3), (10, 4), (10, 10), (10, 11), (10, 12), (10, 13)]) (S' := none) Fr_66 (fun _ h => absurd h List.not_mem_nil) (by decide) (Or.inr rfl)) (gF.tr (gF.mo (F' := [(0, 0), (0, 1), (10, 5), (10, 6), (10, 8), (10, 9)]) (C' := [(0, 0), (6, 0), (10, 3), (10, 4), (10, 10), (10, 11), (10, 12), (10, 13)]) (S' := none) Fr_87 (by decide) (by decide) (Or.inr rfl)) (gF.tr (gF.mo (F' := [(0, 0), (0, 1), (10, 5), (10, 6), (10, 8), (10, 9)]) (C' := [(0, 0), (6, 0), (10, 3), (10, 4), (10, 10), (10, 11), (10, 12), (10, 13)]) (S' := none) Fr_96 (by decide) (fun _ h => absurd h List.not_mem_nil) (Or.inl rfl)) (gF.tr (gF.mo (F' := [(0, 0), (0, 1), (10, 5), (10, 6), (10, 8), (10, 9)]) (C' := [(0, 0), (6, 0), (10, 3), (10, 4), (10, 10), (10, 11), (10, 12), (10, 13)]) (S' := none) Fr_107 (by decide) (by decide) (Or.inr rfl)) (gF.tr (gF.mo (F' := [(0, 0), (0, 1), (10, 5), (10, 6), (10, 8), (10, 9)]) (C' := [(0, 0), (6, 0), (10, 3), (10, 4), (10, 10), (10, 11), (10, 12), (10, 13)]) (S' := none) Fr_133 (by decide) (by decide) (Or.inr rfl)) (gF.tr (gF.mo (F' := [(0, 0), (0, 1), (10, 5), (10, 6), (10, 8), (10, 9)]) (C' := [(0, 0), (6, 0), (10, 3), (10, 4), (10, 10), (10, 11), (10, 12), (10, 13)]) (S' := none) Fr_142 (by decide) (fun _ h => absurd h List.not_mem_nil) (Or.inl rfl)) (gF.tr (gF.mo (F' := [(0, 0), (0, 1), (10, 5), (10, 6), (10, 8), (10, 9)]) (C' := [(0, 0), (6, 0), (10, 3), (10, 4), (10, 10), (10, 11), (10, 12), (10, 13)]) (S' := none) Fr_153 (by decide) (by decide) (Or.inr rfl)) (gF.tr (gF.mo (F' := [(0, 0), (0, 1), (10, 5), (10, 6), (10, 8), (10, 9)]) (C' := [(0, 0), (6, 0), (10, 3), (10, 4), (10, 10), (10, 11), (10, 12), (10, 13)]) (S' := none) Fr_179 (by decide) (by decide) (Or.inr rfl)) (gF.tr (gF.mo (F' := [(0, 0), (0, 1), (10, 5), (10, 6), (10, 8), (10, 9)]) (C' := [(0, 0), (6, 0), (10, 3), (10, 4), (10, 10), (10, 11), (10, 12), (10, 13)]) (S' := none) Fr_191 (by decide) (by decide) (Or.inl rfl)) (gF.tr (gF.mo (F' := [(0, 0), (0, 1), (10, 5), (10, 6), (10, 8), (10, 9)]) (C' := [(0, 0), (6, 0), (10, 3), (10, 4), (10, 10), (10, 11), (10, 12), (10, 13)]) (S' := none) Fr_213 (by decide) (by decide) (Or.inl rfl)) (gF.tr (gF.mo (F' := [(0, 0), (0, 1), (10, 5), (10, 6), (10, 8), (10, 9)]) (C' := [(0, 0), (6, 0), (10, 3), (10, 4), (10, 10), (10, 11), (10, 12), (10, 13)]) (S' := none) Fr_235 (by decide) (by decide) (Or.inl rfl)) (gF.tr (gF.mo (F' := [(0, 0), (0, 1), (10, 5), (10, 6), (10, 8), (10, 9)]) (C' := [(0, 0), (6, 0), (10, 3), (10, 4), (10, 10), (10, 11), (10, 12), (10, 13)]) (S' := none) Fr_257 (by decide) (by decide) (Or.inl rfl)) (gF.tr (gF.mo (F' := [(0, 0), (0, 1), (10, 5), (10, 6), (10, 8), (10, 9)]) (C' := [(0, 0), (6, 0), (10, 3), (10, 4), (10, 10), (10, 11), (10, 12), (10, 13)]) (S' := none) Fr_281 (by decide) (by decide) (Or.inl rfl)) (gF.mo (F' := [(0, 0), (0, 1), (10, 5), (10, 6), (10, 8), (10, 9)]) (C' := [(0, 0), (6, 0), (10, 3), (10, 4), (10, 10), (10, 11), (10, 12), (10, 13)]) (S' := none) Fr_309 (by decide) (by decide) (Or.inr rfl))))))))))))))))))))) (by decide) (by decide) (by decide) (by decide) (by decide) tq_8
            have tq_476 : nlP ws_307 h0 z_474 := nlA_at hD hk_384 rfl hk_385 rfl hk_386 ez_474 (by first | (have e0 : (0 : Int32).toInt = 0 := (by decide); have e24 : (24 : Int32).toInt = 24 := (by decide); have q_f_16 := Hide.out f_16; have q_f_25 := Hide.out f_25; have q_f3_98 := Hide.out f3_98; have q_f19_98 := Hide.out f19_98; have q_f20_98 := Hide.out f20_98; have q_f21_98 := Hide.out f21_98; have q_f28_98 := Hide.out f28_98; have q_f21_144 := Hide.out f21_144; have q_f21_272 := Hide.out f21_272; have q_iv_305 := Hide.out iv_305; have q_iv_306 := Hide.out iv_306; have q_c_310 := i_nle c_310; have q_c_347 := i_nle c_347; have q_f21_385 := Hide.out f21_385; have q_z_387 := i_len ez_387 f3_385; have q_c_388 := i_nle c_388; have g_c4_98 := i_rg c4_98; have g_v5_304 := i_rg v5_304; have g_z_273 := i_rg z_273; have g_z_387 := i_rg z_387; omega) | (have e0 : (0 : Int32).toInt = 0 := (by decide); have e24 : (24 : Int32).toInt = 24 := (by decide); have q_f_16 := Hide.out f_16; have q_f_25 := Hide.out f_25; have q_f3_98 := Hide.out f3_98; have q_f19_98 := Hide.out f19_98; have q_f20_98 := Hide.out f20_98; have q_f21_98 := Hide.out f21_98; have q_f28_98 := Hide.out f28_98; have q_f21_144 := Hide.out f21_144; have q_f21_272 := Hide.out f21_272; have q_iv_305 := Hide.out iv_305; have q_iv_306 := Hide.out iv_306; have q_c_310 := i_nle c_310; have q_c_347 := i_nle c_347; have q_f21_385 := Hide.out f21_385; have q_z_387 := i_len ez_387 f3_385; have q_c_388 := i_nle c_388; have q_f5_98 := Hide.out f5_98; have q_f7_98 := Hide.out f7_98; have q_f7_144 := Hide.out f7_144; have q_f7_272 := Hide.out f7_272; obtain ⟨u_z_273, q_z_273⟩ := i_add ez_273; have q_f7_385 := Hide.out f7_385; have g_c4_98 := i_rg c4_98; have g_v5_304 := i_rg v5_304; have g_x2 := i_rg x2; have g_z_273 := i_rg z_273; have g_z_387 := i_rg z_387; omega)) tq_475
            have hFc := gfree hD hS hA
            refine W_led (fun hL0 => ?_)
            refine va_calli (va_runV (As := [.int z_474]) (rest := [.int v5_304, .ref r10_1]) ⟨hx, hb, hml, hown, hts⟩ (m_X11_nameEntry l g H ws_307 h0 (z_474) (10 + 8 * v5_304.toInt) (103) hG o_h0 (gN_of hD hk_384 (j := 7) rfl) jx_155_0 tq_476 jx_155_1 (by first | (have e0 : (0 : Int32).toInt = 0 := (by decide); have e24 : (24 : Int32).toInt = 24 := (by decide); have e103 : (103 : Int32).toInt = 103 := (by decide); have q_f_16 := Hide.out f_16; have q_f_25 := Hide.out f_25; have q_iv_305 := Hide.out iv_305; have q_iv_306 := Hide.out iv_306; have q_c_310 := i_nle c_310; have q_c_347 := i_nle c_347; have q_c_388 := i_nle c_388; have g_v5_304 := i_rg v5_304; have g_z_273 := i_rg z_273; have g_z_387 := i_rg z_387; omega) | (have e0 : (0 : Int32).toInt = 0 := (by decide); have e24 : (24 : Int32).toInt = 24 := (by decide); have e103 : (103 : Int32).toInt = 103 := (by decide); have q_f_16 := Hide.out f_16; have q_f_25 := Hide.out f_25; have q_iv_305 := Hide.out iv_305; have q_iv_306 := Hide.out iv_306; have q_c_310 := i_nle c_310; have q_c_347 := i_nle c_347; have q_c_388 := i_nle c_388; obtain ⟨u_z_273, q_z_273⟩ := i_add ez_273; have q_z_387 := i_len ez_387 f3_385; have g_c4_98 := i_rg c4_98; have g_v5_304 := i_rg v5_304; have g_x2 := i_rg x2; have g_z_273 := i_rg z_273; have g_z_387 := i_rg z_387; omega) | (have e0 : (0 : Int32).toInt = 0 := (by decide); have e24 : (24 : Int32).toInt = 24 := (by decide); have e103 : (103 : Int32).toInt = 103 := (by decide); have q_f_16 := Hide.out f_16; have q_f_25 := Hide.out f_25; have q_iv_305 := Hide.out iv_305; have q_iv_306 := Hide.out iv_306; have q_c_310 := i_nle c_310; have q_c_347 := i_nle c_347; have q_c_388 := i_nle c_388; obtain ⟨u_z_273, q_z_273⟩ := i_add ez_273; have q_z_387 := i_len ez_387 f3_385; have q_f3_98 := Hide.out f3_98; have q_f19_98 := Hide.out f19_98; have q_f20_98 := Hide.out f20_98; have q_f21_98 := Hide.out f21_98; have q_f28_98 := Hide.out f28_98; have q_f21_144 := Hide.out f21_144; have q_f21_272 := Hide.out f21_272; have q_f21_385 := Hide.out f21_385; have g_c4_98 := i_rg c4_98; have g_v5_304 := i_rg v5_304; have g_x2 := i_rg x2; have g_z_273 := i_rg z_273; have g_z_387 := i_rg z_387; omega) | (have e0 : (0 : Int32).toInt = 0 := (by decide); have e24 : (24 : Int32).toInt = 24 := (by decide); have e103 : (103 : Int32).toInt = 103 := (by decide); have q_f_16 := Hide.out f_16; have q_f_25 := Hide.out f_25; have q_iv_305 := Hide.out iv_305; have q_iv_306 := Hide.out iv_306; have q_c_310 := i_nle c_310; have q_c_347 := i_nle c_347; have q_c_388 := i_nle c_388; obtain ⟨u_z_273, q_z_273⟩ := i_add ez_273; have q_z_387 := i_len ez_387 f3_385; have q_f3_98 := Hide.out f3_98; have q_f19_98 := Hide.out f19_98; have q_f20_98 := Hide.out f20_98; have q_f21_98 := Hide.out f21_98; have q_f28_98 := Hide.out f28_98; have q_f21_144 := Hide.out f21_144; have q_f21_272 := Hide.out f21_272; have q_f21_385 := Hide.out f21_385; have q_f5_98 := Hide.out f5_98; have q_f7_98 := Hide.out f7_98; have q_f7_144 := Hide.out f7_144; have q_f7_272 := Hide.out f7_272; have q_f7_385 := Hide.out f7_385; have g_c4_98 := i_rg c4_98; have g_v5_304 := i_rg v5_304; have g_x2 := i_rg x2; have g_z_273 := i_rg z_273; have g_z_387 := i_rg z_387; omega))) (cwV 1 hts (gd_V kw_88 kw_217 kw_218 kw_83 kw_216) rfl rfl rfl (by decide +kernel) ⟨Nat.le_of_ble_eq_true rfl, Nat.le_of_ble_eq_true rfl⟩) ⟨gblindH, va_recv hK hP (ci := 10) (q0 := k_1) rfl hk_384, fun U hU hW9 => gmkH hU hW9 hP hK hD hex hE hS hFc⟩ rfl rfl hl.1 rfl (lv_room (Nat.le_of_ble_eq_true rfl)) dX11_begin_211 ⟨(show dc_155_1 + (PC ws_307 + (0)) ≤ PC ws + (0) from (by have e0 : (0 : Int32).toInt = 0 := (by decide); have q_f_16 := Hide.out f_16; have q_f_25 := Hide.out f_25; omega)), (show ds_155_1 + (PS ws_307 + (0)) ≤ PS ws + (0) from (by have e0 : (0 : Int32).toInt = 0 := (by decide); have q_f_16 := Hide.out f_16; have q_f_25 := Hide.out f_25; omega))⟩) hS (fun q _ h => hFc q h) hFc (fun r_477 ws_478 t9 H1 locs ht9 hvm9 hw9 hB9 hz9 hk9 hS => ?_)
            obtain ⟨E_479, Fr_480, hG, hP1, hD1, dc_481, ds_482, hLd, hdc_481, hds_482⟩ := hB9
            rw [ht9] at hLd
            refine W_tight (hL0.tr hLd).1 (hL0.tr hLd).2.1 ?_
            clear hL0 hLd
            have hP : va_P (gD g) cl0 ws_478 H1 := by rw [← ht9]; exact hP1
            have hD : va_D A ws_478 := hD1.weaken (fun _ _ _ h => hFc _ h)
            obtain ⟨hw9, xp_483, xp_484⟩ := hw9
            clear hP1 hD1 hz9 hk9 hvm9 ht9 hw9
            generalize H1 = H at hP hS ⊢
            have aa_485 := a_r3_384
            have aa_486 := a_r4_384
            have aa_487 := a_r10_1
            have aa_488 := a_r11_1
            have aa_489 := a_r12_1
            have aa_490 := a_r13_1
            have aa_491 := a_r16_384
            have aa_492 := a_r17_384
            have aa_493 := a_r0_385
            have aa_494 := a_r5_98
            have aa_495 := a_r6_98
            have aa_496 := a_r7_385
            have aa_497 := a_r9_385
            have aa_498 := a_r10_385
            have aa_499 := a_r11_385
            have aa_500 := a_r12_385
            have aa_501 := a_r13_385
            have o_h0 := E_479.1 _ _ o_h0
            have a_r10_1 := E_479.1 _ _ a_r10_1
            refine lv_goto (tgt := 232) hx hb dX11_begin_214 (by decide) ?_
            obtain ⟨k_502, f_502, hk_502⟩ := gI_of a_r10_1
            obtain ⟨fs9, hk_503, hq_503⟩ := ((gF.a (F' := [(0, 0), (0, 1), (10, 5), (10, 6)]) Fr_480 (fun _ h => h))) _ _ _ hk_384
            refine opn_X11 hG hk_503 (fun r0_503 r1_503 r2_503 r3_503 n3_503 r4_503 n4_503 c5_503 c6_503 v7_503 c8_503 c9_503 r10_503 n10_503 r11_503 n11_503 r12_503 n12_503 r13_503 n13_503 r14_503 v15_503 r16_503 n16_503 r17_503 n17_503 hf9 o_r0_503 o_r1_503 o_r2_503 a_r3_503 f4_503 a_r4_503 f6_503 hz_c6_503 o_v7_503 a_r10_503 f10_503 a_r11_503 f12_503 a_r12_503 f14_503 a_r13_503 f16_503 o_r14_503 o_v15_503 a_r16_503 f20_503 a_r17_503 f22_503 f23_503 f24_503 f25_503 f26_503 f27_503 f28_503 => ?_)
            subst hf9
            obtain rfl := fe_r (hq_503 0 (by decide))
            have o_r0_1 := o_r0_503
            obtain rfl := fe_r (hq_503 1 (by decide))
            have o_r1_1 := o_r1_503
            have hn9 := fe_qr (hq_503 7 (by decide))
            subst hn9
            have o_b1 := o_v7_503 _ rfl
            obtain rfl := fe_i (hq_503 9 (by decide))
            obtain rfl := fe_r (hq_503 10 (by decide))
            have hn9 := gI_n hD ((E_479).1 _ _ aa_487) a_r10_503
            subst hn9
            have a_r10_1 := a_r10_503
            obtain rfl := fe_r (hq_503 11 (by decide))
            have hn9 := gI_n hD ((E_479).1 _ _ aa_488) a_r11_503
            subst hn9
            have a_r11_1 := a_r11_503
            obtain rfl := fe_r (hq_503 12 (by decide))
            have hn9 := gI_n hD ((E_479).1 _ _ aa_489) a_r12_503
            subst hn9
            have a_r12_1 := a_r12_503
            obtain rfl := fe_r (hq_503 13 (by decide))
            have hn9 := gI_n hD ((E_479).1 _ _ aa_490) a_r13_503
            subst hn9
            have a_r13_1 := a_r13_503
            obtain rfl := fe_q (hq_503 15 (by decide))
            have o_v15_1 := o_v15_503
            have hC9 : hol ws_478 r10_1 [(10, 10)] := (hol_u hG.u hk_503 (j := 10) rfl a_r10_1 (by decide))
            have hS9 : holS ws_478 r10_1 none := holS_n
            refine va_iast hx hb hK hP hD hS k_502 1 hk_502 rfl (i_in2 (by first | (have e0 : (0 : Int32).toInt = 0 := (by decide); have e24 : (24 : Int32).toInt = 24 := (by decide); have q_f10_1 := Hide.out f10_1; have q_f25_1 := Hide.out f25_1; have q_f_16 := Hide.out f_16; have q_f_25 := Hide.out f_25; have q_iv_305 := Hide.out iv_305; have q_iv_306 := Hide.out iv_306; have q_c_310 := i_nle c_310; have q_c_347 := i_nle c_347; have q_c_388 := i_nle c_388; have g_v5_304 := i_rg v5_304; have g_z_273 := i_rg z_273; have g_z_387 := i_rg z_387; omega) | (have e0 : (0 : Int32).toInt = 0 := (by decide); have e24 : (24 : Int32).toInt = 24 := (by decide); have q_f10_1 := Hide.out f10_1; have q_f25_1 := Hide.out f25_1; have q_f_16 := Hide.out f_16; have q_f_25 := Hide.out f_25; have q_iv_305 := Hide.out iv_305; have q_iv_306 := Hide.out iv_306; have q_c_310 := i_nle c_310; have q_c_347 := i_nle c_347; have q_c_388 := i_nle c_388; obtain ⟨u_z_273, q_z_273⟩ := i_add ez_273; have q_z_387 := i_len ez_387 f3_385; have g_c4_98 := i_rg c4_98; have g_v5_304 := i_rg v5_304; have g_x2 := i_rg x2; have g_z_273 := i_rg z_273; have g_z_387 := i_rg z_387; omega) | (have e0 : (0 : Int32).toInt = 0 := (by decide); have e24 : (24 : Int32).toInt = 24 := (by decide); have q_f10_1 := Hide.out f10_1; have q_f25_1 := Hide.out f25_1; have q_f_16 := Hide.out f_16; have q_f_25 := Hide.out f_25; have q_iv_305 := Hide.out iv_305; have q_iv_306 := Hide.out iv_306; have q_c_310 := i_nle c_310; have q_c_347 := i_nle c_347; have q_c_388 := i_nle c_388; obtain ⟨u_z_273, q_z_273⟩ := i_add ez_273; have q_z_387 := i_len ez_387 f3_385; have q_f3_98 := Hide.out f3_98; have q_f19_98 := Hide.out f19_98; have q_f20_98 := Hide.out f20_98; have q_f21_98 := Hide.out f21_98; have q_f28_98 := Hide.out f28_98; have q_f21_144 := Hide.out f21_144; have q_f21_272 := Hide.out f21_272; have q_f21_385 := Hide.out f21_385; have g_c4_98 := i_rg c4_98; have g_v5_304 := i_rg v5_304; have g_x2 := i_rg x2; have g_z_273 := i_rg z_273; have g_z_387 := i_rg z_387; omega) | (have e0 : (0 : Int32).toInt = 0 := (by decide); have e24 : (24 : Int32).toInt = 24 := (by decide); have q_f10_1 := Hide.out f10_1; have q_f25_1 := Hide.out f25_1; have q_f_16 := Hide.out f_16; have q_f_25 := Hide.out f_25; have q_iv_305 := Hide.out iv_305; have q_iv_306 := Hide.out iv_306; have q_c_310 := i_nle c_310; have q_c_347 := i_nle c_347; have q_c_388 := i_nle c_388; obtain ⟨u_z_273, q_z_273⟩ := i_add ez_273; have q_z_387 := i_len ez_387 f3_385; have q_f3_98 := Hide.out f3_98; have q_f19_98 := Hide.out f19_98; have q_f20_98 := Hide.out f20_98; have q_f21_98 := Hide.out f21_98; have q_f28_98 := Hide.out f28_98; have q_f21_144 := Hide.out f21_144; have q_f21_272 := Hide.out f21_272; have q_f21_385 := Hide.out f21_385; have q_f5_98 := Hide.out f5_98; have q_f7_98 := Hide.out f7_98; have q_f7_144 := Hide.out f7_144; have q_f7_272 := Hide.out f7_272; have q_f7_385 := Hide.out f7_385; have g_c4_98 := i_rg c4_98; have g_v5_304 := i_rg v5_304; have g_x2 := i_rg x2; have g_z_273 := i_rg z_273; have g_z_387 := i_rg z_387; omega))) dX11_begin_232 (fun H locs hP hD hS => ?_)
            obtain ⟨ws_504, e_ws_504⟩ : ∃ z, z = ws_478.set k_502 (r10_1, .inl (g.cI, n10_1, .inl (upd f_502 (v5_304 : Int32).toNatClampNeg r_477))) := ⟨_, rfl⟩
            have hP : va_P (gD g) cl0 ws_504 H := by rw [e_ws_504]; exact hP
            have hD : va_D A ws_504 := by rw [e_ws_504]; exact hD
            have E_505 : gE ws_478 ws_504 := gE_ari e_ws_504 hk_502
            have hG : Good g ws_504 := Good_arI e_ws_504 hk_502 hG
            have Fr_506 : gF [] [(10, 10)] none ws_478 ws_504 := gF_ar e_ws_504 hk_502 rfl hC9 hS9
            have pp_507 := Fr_506.pp
            have hk_503 := gset_arO e_ws_504 hk_502 hk_503
            have o_h0 := E_505.1 _ _ o_h0
            have a_r10_1 := E_505.1 _ _ a_r10_1
            have o_r2_503 := E_505.1 _ _ o_r2_503
            have a_r3_503 := E_505.1 _ _ a_r3_503
            have a_r4_503 := E_505.1 _ _ a_r4_503
            have o_r14_503 := E_505.1 _ _ o_r14_503
            have a_r16_503 := E_505.1 _ _ a_r16_503
            have a_r17_503 := E_505.1 _ _ a_r17_503
            have o_r0_1 := E_505.1 _ _ o_r0_1
            have o_r1_1 := E_505.1 _ _ o_r1_1
            have o_b1 := E_505.1 _ _ o_b1
            have a_r11_1 := E_505.1 _ _ a_r11_1
            have a_r12_1 := E_505.1 _ _ a_r12_1
            have a_r13_1 := E_505.1 _ _ a_r13_1
            have o_v15_1 : ∀ b, v15_1 = some b → gC ws_504 b 7 := fun b h => E_505.1 _ _ (o_v15_1 b h)
            refine lv_aload_n hx hb dX11_begin_233 rfl (lv_at hl 1 rfl) ?_
            refine va_get (D := gD g) (ci := 10) (v := .ref r11_1) (C := RX11) (T := TX11) (N := 18) hx hb hts inX11 hown hK hP k_1 hk_503 rfl 11 (by decide) (hts _ kw_128) (fun _ h9 => h9) rfl dX11_begin_234 ?_
            refine lv_iload hx hb dX11_begin_237 (lv_at hl 3 rfl) ?_
            refine lv_iload hx hb dX11_begin_239 (lv_at hl 0 rfl) ?_
            refine lv_if_eq (tgt := 261) hx hb dX11_begin_241 (by decide) (fun c9 => absurd c9 (by decide)) (fun _ => ?_)
            refine lv_aload_n hx hb dX11_begin_244 rfl (lv_at hl 1 rfl) ?_
            refine lv_aload_n hx hb dX11_begin_245 rfl (lv_at hl 1 rfl) ?_
            refine va_get (D := gD g) (ci := 10) (v := .ref b1) (C := RX11) (T := TX11) (N := 18) hx hb hts inX11 hown hK hP k_1 hk_503 rfl 7 (by decide) (hts _ kw_86) (fun _ h9 => h9) rfl dX11_begin_246 ?_
            obtain ⟨fs9, hk_508, hq_508⟩ := ((gA.tr (gF.a (F' := [(0, 0), (0, 1), (10, 5), (10, 6)]) Fr_480 (fun _ h => h)) (gF.a (F' := [(0, 0), (0, 1), (10, 5), (10, 6)]) Fr_506 (fun _ h => absurd h List.not_mem_nil)))) _ _ _ hk_385
            refine opn_X10 hG hk_508 (fun r0_508 n0_508 c1_508 c2_508 c3_508 c4_508 r5_508 n5_508 r6_508 n6_508 r7_508 n7_508 c8_508 r9_508 n9_508 r10_508 n10_508 r11_508 n11_508 r12_508 n12_508 r13_508 n13_508 c14_508 c15_508 c16_508 c17_508 hf9 a_r0_508 f1_508 a_r5_508 f3_508 a_r6_508 f5_508 a_r7_508 f7_508 a_r9_508 f9_508 a_r10_508 f11_508 a_r11_508 f13_508 a_r12_508 f15_508 a_r13_508 f17_508 hz_c15_508 f19_508 f20_508 f21_508 f22_508 f23_508 f24_508 f25_508 f26_508 f27_508 f28_508 => ?_)
            subst hf9
            obtain rfl := fe_i (hq_508 2 (by decide))
            obtain rfl := fe_i (hq_508 3 (by decide))
            obtain rfl := fe_i (hq_508 4 (by decide))
            obtain rfl := fe_r (hq_508 5 (by decide))
            have hn9 := gI_n hD (((E_479.tr E_505)).1 _ _ aa_494) a_r5_508
            subst hn9
            have a_r5_98 := a_r5_508
            obtain rfl := fe_r (hq_508 6 (by decide))
            have hn9 := gI_n hD (((E_479.tr E_505)).1 _ _ aa_495) a_r6_508
            subst hn9
            have a_r6_98 := a_r6_508
            obtain rfl := fe_i (hq_508 8 (by decide))
            refine va_get (D := gD g) (ci := 9) (v := .ref r6_98) (C := RX10) (T := TX10) (N := 18) hx hb hts inX10 hown hK hP k_98 hk_508 rfl 6 (by decide) (hts _ kw_129) (fun _ h9 => h9) rfl dX11_begin_249 ?_
            refine lv_iload hx hb dX11_begin_252 (lv_at hl 3 rfl) ?_
            obtain ⟨k_509, f_509, hk_509⟩ := gI_of a_r6_98
            refine va_iald hx hb hK hP k_509 1 hk_509 rfl (i_in2 (by first | (have e0 : (0 : Int32).toInt = 0 := (by decide); have e24 : (24 : Int32).toInt = 24 := (by decide); have q_f_16 := Hide.out f_16; have q_f_25 := Hide.out f_25; have q_f5_98 := Hide.out f5_98; have q_f20_98 := Hide.out f20_98; have q_iv_305 := Hide.out iv_305; have q_iv_306 := Hide.out iv_306; have q_c_310 := i_nle c_310; have q_c_347 := i_nle c_347; have q_c_388 := i_nle c_388; have g_v5_304 := i_rg v5_304; have g_z_273 := i_rg z_273; have g_z_387 := i_rg z_387; omega) | (have e0 : (0 : Int32).toInt = 0 := (by decide); have e24 : (24 : Int32).toInt = 24 := (by decide); have q_f_16 := Hide.out f_16; have q_f_25 := Hide.out f_25; have q_f5_98 := Hide.out f5_98; have q_f20_98 := Hide.out f20_98; have q_iv_305 := Hide.out iv_305; have q_iv_306 := Hide.out iv_306; have q_c_310 := i_nle c_310; have q_c_347 := i_nle c_347; have q_c_388 := i_nle c_388; have q_f3_98 := Hide.out f3_98; have q_f19_98 := Hide.out f19_98; have q_f21_98 := Hide.out f21_98; have q_f28_98 := Hide.out f28_98; have q_f21_144 := Hide.out f21_144; have q_f21_272 := Hide.out f21_272; obtain ⟨u_z_273, q_z_273⟩ := i_add ez_273; have q_f21_385 := Hide.out f21_385; have q_z_387 := i_len ez_387 f3_385; have q_f21_508 := Hide.out f21_508; have g_c4_98 := i_rg c4_98; have g_v5_304 := i_rg v5_304; have g_x2 := i_rg x2; have g_z_273 := i_rg z_273; have g_z_387 := i_rg z_387; omega) | (have e0 : (0 : Int32).toInt = 0 := (by decide); have e24 : (24 : Int32).toInt = 24 := (by decide); have q_f_16 := Hide.out f_16; have q_f_25 := Hide.out f_25; have q_f5_98 := Hide.out f5_98; have q_f20_98 := Hide.out f20_98; have q_iv_305 := Hide.out iv_305; have q_iv_306 := Hide.out iv_306; have q_c_310 := i_nle c_310; have q_c_347 := i_nle c_347; have q_c_388 := i_nle c_388; have q_f3_98 := Hide.out f3_98; have q_f19_98 := Hide.out f19_98; have q_f21_98 := Hide.out f21_98; have q_f28_98 := Hide.out f28_98; have q_f21_144 := Hide.out f21_144; have q_f21_272 := Hide.out f21_272; obtain ⟨u_z_273, q_z_273⟩ := i_add ez_273; have q_f21_385 := Hide.out f21_385; have q_z_387 := i_len ez_387 f3_385; have q_f21_508 := Hide.out f21_508; have q_f7_98 := Hide.out f7_98; have q_f7_144 := Hide.out f7_144; have q_f7_272 := Hide.out f7_272; have q_f7_385 := Hide.out f7_385; have q_f7_508 := Hide.out f7_508; have g_c4_98 := i_rg c4_98; have g_v5_304 := i_rg v5_304; have g_x2 := i_rg x2; have g_z_273 := i_rg z_273; have g_z_387 := i_rg z_387; omega))) dX11_begin_254 ?_
            refine lv_topi (fun z_510 ez_510 => ?_)
            have tq_511 : nlA6 ws_504 h0 := nlA6_mo ((gF.tr (gF.mo (F' := [(0, 0), (0, 1), (10, 5), (10, 6), (10, 8), (10, 9)]) (C' := [(0, 0), (6, 0), (10, 3), (10, 4), (10, 10), (10, 11), (10, 12), (10, 13)]) (S' := none) Fr_21 (by decide) (fun _ h => absurd h List.not_mem_nil) (Or.inl rfl)) (gF.tr (gF.mo (F' := [(0, 0), (0, 1), (10, 5), (10, 6), (10, 8), (10, 9)]) (C' := [(0, 0), (6, 0), (10, 3), (10, 4), (10, 10), (10, 11), (10, 12), (10, 13)]) (S' := none) Fr_30 (by decide) (fun _ h => absurd h List.not_mem_nil) (Or.inl rfl)) (gF.tr (gF.mo (F' := [(0, 0), (0, 1), (10, 5), (10, 6), (10, 8), (10, 9)]) (C' := [(0, 0), (6, 0), (10, 3), (10, 4), (10, 10), (10, 11), (10, 12), (10, 13)]) (S' := none) Fr_37 (by decide) (fun _ h => absurd h List.not_mem_nil) (Or.inl rfl)) (gF.tr (gF.mo (F' := [(0, 0), (0, 1), (10, 5), (10, 6), (10, 8), (10, 9)]) (C' := [(0, 0), (6, 0), (10, 3), (10, 4), (10, 10), (10, 11), (10, 12), (10, 13)]) (S' := none) Fr_45 (by decide) (fun _ h => absurd h List.not_mem_nil) (Or.inl rfl)) (gF.tr (gF.mo (F' := [(0, 0), (0, 1), (10, 5), (10, 6), (10, 8), (10, 9)]) (C' := [(0, 0), (6, 0), (10, 3), (10, 4), (10, 10), (10, 11), (10, 12), (10, 13)]) (S' := none) Fr_49 (fun _ h => absurd h List.not_mem_nil) (by decide) (Or.inr rfl)) (gF.tr (gF.mo (F' := [(0, 0), (0, 1), (10, 5), (10, 6), (10, 8), (10, 9)]) (C' := [(0, 0), (6, 0), (10, 3), (10, 4), (10, 10), (10, 11), (10, 12), (10, 13)]) (S' := none) Fr_66 (fun _ h => absurd h List.not_mem_nil) (by decide) (Or.inr rfl)) (gF.tr (gF.mo (F' := [(0, 0), (0, 1), (10, 5), (10, 6), (10, 8), (10, 9)]) (C' := [(0, 0), (6, 0), (10, 3), (10, 4), (10, 10), (10, 11), (10, 12), (10, 13)]) (S' := none) Fr_87 (by decide) (by decide) (Or.inr rfl)) (gF.tr (gF.mo (F' := [(0, 0), (0, 1), (10, 5), (10, 6), (10, 8), (10, 9)]) (C' := [(0, 0), (6, 0), (10, 3), (10, 4), (10, 10), (10, 11), (10, 12), (10, 13)]) (S' := none) Fr_96 (by decide) (fun _ h => absurd h List.not_mem_nil) (Or.inl rfl)) (gF.tr (gF.mo (F' := [(0, 0), (0, 1), (10, 5), (10, 6), (10, 8), (10, 9)]) (C' := [(0, 0), (6, 0), (10, 3), (10, 4), (10, 10), (10, 11), (10, 12), (10, 13)]) (S' := none) Fr_107 (by decide) (by decide) (Or.inr rfl)) (gF.tr (gF.mo (F' := [(0, 0), (0, 1), (10, 5), (10, 6), (10, 8), (10, 9)]) (C' := [(0, 0), (6, 0), (10, 3), (10, 4), (10, 10), (10, 11), (10, 12), (10, 13)]) (S' := none) Fr_133 (by decide) (by decide) (Or.inr rfl)) (gF.tr (gF.mo (F' := [(0, 0), (0, 1), (10, 5), (10, 6), (10, 8), (10, 9)]) (C' := [(0, 0), (6, 0), (10, 3), (10, 4), (10, 10), (10, 11), (10, 12), (10, 13)]) (S' := none) Fr_142 (by decide) (fun _ h => absurd h List.not_mem_nil) (Or.inl rfl)) (gF.tr (gF.mo (F' := [(0, 0), (0, 1), (10, 5), (10, 6), (10, 8), (10, 9)]) (C' := [(0, 0), (6, 0), (10, 3), (10, 4), (10, 10), (10, 11), (10, 12), (10, 13)]) (S' := none) Fr_153 (by decide) (by decide) (Or.inr rfl)) (gF.tr (gF.mo (F' := [(0, 0), (0, 1), (10, 5), (10, 6), (10, 8), (10, 9)]) (C' := [(0, 0), (6, 0), (10, 3), (10, 4), (10, 10), (10, 11), (10, 12), (10, 13)]) (S' := none) Fr_179 (by decide) (by decide) (Or.inr rfl)) (gF.tr (gF.mo (F' := [(0, 0), (0, 1), (10, 5), (10, 6), (10, 8), (10, 9)]) (C' := [(0, 0), (6, 0), (10, 3), (10, 4), (10, 10), (10, 11), (10, 12), (10, 13)]) (S' := none) Fr_191 (by decide) (by decide) (Or.inl rfl)) (gF.tr (gF.mo (F' := [(0, 0), (0, 1), (10, 5), (10, 6), (10, 8), (10, 9)]) (C' := [(0, 0), (6, 0), (10, 3), (10, 4), (10, 10), (10, 11), (10, 12), (10, 13)]) (S' := none) Fr_213 (by decide) (by decide) (Or.inl rfl)) (gF.tr (gF.mo (F' := [(0, 0), (0, 1), (10, 5), (10, 6), (10, 8), (10, 9)]) (C' := [(0, 0), (6, 0), (10, 3), (10, 4), (10, 10), (10, 11), (10, 12), (10, 13)]) (S' := none) Fr_235 (by decide) (by decide) (Or.inl rfl)) (gF.tr (gF.mo (F' := [(0, 0), (0, 1), (10, 5), (10, 6), (10, 8), (10, 9)]) (C' := [(0, 0), (6, 0), (10, 3), (10, 4), (10, 10), (10, 11), (10, 12), (10, 13)]) (S' := none) Fr_257 (by decide) (by decide) (Or.inl rfl)) (gF.tr (gF.mo (F' := [(0, 0), (0, 1), (10, 5), (10, 6), (10, 8), (10, 9)]) (C' := [(0, 0), (6, 0), (10, 3), (10, 4), (10, 10), (10, 11), (10, 12), (10, 13)]) (S' := none) Fr_281 (by decide) (by decide) (Or.inl rfl)) (gF.tr (gF.mo (F' := [(0, 0), (0, 1), (10, 5), (10, 6), (10, 8), (10, 9)]) (C' := [(0, 0), (6, 0), (10, 3), (10, 4), (10, 10), (10, 11), (10, 12), (10, 13)]) (S' := none) Fr_309 (by decide) (by decide) (Or.inr rfl)) (gF.tr (gF.mo (F' := [(0, 0), (0, 1), (10, 5), (10, 6), (10, 8), (10, 9)]) (C' := [(0, 0), (6, 0), (10, 3), (10, 4), (10, 10), (10, 11), (10, 12), (10, 13)]) (S' := none) Fr_480 (by decide) (by decide) (Or.inr rfl)) (gF.mo (F' := [(0, 0), (0, 1), (10, 5), (10, 6), (10, 8), (10, 9)]) (C' := [(0, 0), (6, 0), (10, 3), (10, 4), (10, 10), (10, 11), (10, 12), (10, 13)]) (S' := none) Fr_506 (fun _ h => absurd h List.not_mem_nil) (by decide) (Or.inr rfl))))))))))))))))))))))) (by decide) (by decide) (by decide) (by decide) (by decide) tq_9
            have tq_512 : nlP ws_504 h0 z_510 := nlA_at hD hk_503 rfl hk_508 rfl hk_509 ez_510 (by first | (have e0 : (0 : Int32).toInt = 0 := (by decide); have e24 : (24 : Int32).toInt = 24 := (by decide); have q_f_16 := Hide.out f_16; have q_f_25 := Hide.out f_25; have q_f5_98 := Hide.out f5_98; have q_f20_98 := Hide.out f20_98; have q_iv_305 := Hide.out iv_305; have q_iv_306 := Hide.out iv_306; have q_c_310 := i_nle c_310; have q_c_347 := i_nle c_347; have q_c_388 := i_nle c_388; have g_v5_304 := i_rg v5_304; have g_z_273 := i_rg z_273; have g_z_387 := i_rg z_387; omega) | (have e0 : (0 : Int32).toInt = 0 := (by decide); have e24 : (24 : Int32).toInt = 24 := (by decide); have q_f_16 := Hide.out f_16; have q_f_25 := Hide.out f_25; have q_f5_98 := Hide.out f5_98; have q_f20_98 := Hide.out f20_98; have q_iv_305 := Hide.out iv_305; have q_iv_306 := Hide.out iv_306; have q_c_310 := i_nle c_310; have q_c_347 := i_nle c_347; have q_c_388 := i_nle c_388; have q_f3_98 := Hide.out f3_98; have q_f19_98 := Hide.out f19_98; have q_f21_98 := Hide.out f21_98; have q_f28_98 := Hide.out f28_98; have q_f21_144 := Hide.out f21_144; have q_f21_272 := Hide.out f21_272; obtain ⟨u_z_273, q_z_273⟩ := i_add ez_273; have q_f21_385 := Hide.out f21_385; have q_z_387 := i_len ez_387 f3_385; have q_f21_508 := Hide.out f21_508; have g_c4_98 := i_rg c4_98; have g_v5_304 := i_rg v5_304; have g_x2 := i_rg x2; have g_z_273 := i_rg z_273; have g_z_387 := i_rg z_387; omega) | (have e0 : (0 : Int32).toInt = 0 := (by decide); have e24 : (24 : Int32).toInt = 24 := (by decide); have q_f_16 := Hide.out f_16; have q_f_25 := Hide.out f_25; have q_f5_98 := Hide.out f5_98; have q_f20_98 := Hide.out f20_98; have q_iv_305 := Hide.out iv_305; have q_iv_306 := Hide.out iv_306; have q_c_310 := i_nle c_310; have q_c_347 := i_nle c_347; have q_c_388 := i_nle c_388; have q_f3_98 := Hide.out f3_98; have q_f19_98 := Hide.out f19_98; have q_f21_98 := Hide.out f21_98; have q_f28_98 := Hide.out f28_98; have q_f21_144 := Hide.out f21_144; have q_f21_272 := Hide.out f21_272; obtain ⟨u_z_273, q_z_273⟩ := i_add ez_273; have q_f21_385 := Hide.out f21_385; have q_z_387 := i_len ez_387 f3_385; have q_f21_508 := Hide.out f21_508; have q_f7_98 := Hide.out f7_98; have q_f7_144 := Hide.out f7_144; have q_f7_272 := Hide.out f7_272; have q_f7_385 := Hide.out f7_385; have q_f7_508 := Hide.out f7_508; have g_c4_98 := i_rg c4_98; have g_v5_304 := i_rg v5_304; have g_x2 := i_rg x2; have g_z_273 := i_rg z_273; have g_z_387 := i_rg z_387; omega)) tq_511
            have tq_513 : enP g ws_504 h0 := enP_mo (Fr_506) (by decide) (by decide) (by decide) xp_483
            have tq_514 : wcP ws_504 h0 0 ((10 + 8 * v5_304.toInt)) (103) := wcP_mo (Fr_506) (by decide) (by decide) (by decide) (by decide) (by decide) xp_484
            have hFc := gfree hD hS hA
            have pg_515 := ge_10_17 hD hk_503 rfl a_r17_503
            refine W_led (fun hL0 => ?_)
            refine va_calli (va_runV (As := [.int z_510]) (rest := [.int v5_304, .ref r11_1]) ⟨hx, hb, hml, hown, hts⟩ (m_X11_nameEntry l g H ws_504 h0 (z_510) ((10 + 8 * v5_304.toInt)) (103) hG o_h0 (gN_of hD hk_503 (j := 7) rfl) tq_513 tq_512 tq_514 (by first | (have e0 : (0 : Int32).toInt = 0 := (by decide); have e24 : (24 : Int32).toInt = 24 := (by decide); have e103 : (103 : Int32).toInt = 103 := (by decide); have q_f_16 := Hide.out f_16; have q_f_25 := Hide.out f_25; have q_iv_305 := Hide.out iv_305; have q_iv_306 := Hide.out iv_306; have q_c_310 := i_nle c_310; have q_c_347 := i_nle c_347; have q_c_388 := i_nle c_388; have g_v5_304 := i_rg v5_304; have g_z_273 := i_rg z_273; have g_z_387 := i_rg z_387; omega) | (have e0 : (0 : Int32).toInt = 0 := (by decide); have e24 : (24 : Int32).toInt = 24 := (by decide); have e103 : (103 : Int32).toInt = 103 := (by decide); have q_f_16 := Hide.out f_16; have q_f_25 := Hide.out f_25; have q_iv_305 := Hide.out iv_305; have q_iv_306 := Hide.out iv_306; have q_c_310 := i_nle c_310; have q_c_347 := i_nle c_347; have q_c_388 := i_nle c_388; obtain ⟨u_z_273, q_z_273⟩ := i_add ez_273; have q_z_387 := i_len ez_387 f3_385; have g_c4_98 := i_rg c4_98; have g_v5_304 := i_rg v5_304; have g_x2 := i_rg x2; have g_z_273 := i_rg z_273; have g_z_387 := i_rg z_387; omega) | (have e0 : (0 : Int32).toInt = 0 := (by decide); have e24 : (24 : Int32).toInt = 24 := (by decide); have e103 : (103 : Int32).toInt = 103 := (by decide); have q_f_16 := Hide.out f_16; have q_f_25 := Hide.out f_25; have q_iv_305 := Hide.out iv_305; have q_iv_306 := Hide.out iv_306; have q_c_310 := i_nle c_310; have q_c_347 := i_nle c_347; have q_c_388 := i_nle c_388; obtain ⟨u_z_273, q_z_273⟩ := i_add ez_273; have q_z_387 := i_len ez_387 f3_385; have q_f3_98 := Hide.out f3_98; have q_f19_98 := Hide.out f19_98; have q_f20_98 := Hide.out f20_98; have q_f21_98 := Hide.out f21_98; have q_f28_98 := Hide.out f28_98; have q_f21_144 := Hide.out f21_144; have q_f21_272 := Hide.out f21_272; have q_f21_385 := Hide.out f21_385; have q_f21_508 := Hide.out f21_508; have g_c4_98 := i_rg c4_98; have g_v5_304 := i_rg v5_304; have g_x2 := i_rg x2; have g_z_273 := i_rg z_273; have g_z_387 := i_rg z_387; omega) | (have e0 : (0 : Int32).toInt = 0 := (by decide); have e24 : (24 : Int32).toInt = 24 := (by decide); have e103 : (103 : Int32).toInt = 103 := (by decide); have q_f_16 := Hide.out f_16; have q_f_25 := Hide.out f_25; have q_iv_305 := Hide.out iv_305; have q_iv_306 := Hide.out iv_306; have q_c_310 := i_nle c_310; have q_c_347 := i_nle c_347; have q_c_388 := i_nle c_388; obtain ⟨u_z_273, q_z_273⟩ := i_add ez_273; have q_z_387 := i_len ez_387 f3_385; have q_f3_98 := Hide.out f3_98; have q_f19_98 := Hide.out f19_98; have q_f20_98 := Hide.out f20_98; have q_f21_98 := Hide.out f21_98; have q_f28_98 := Hide.out f28_98; have q_f21_144 := Hide.out f21_144; have q_f21_272 := Hide.out f21_272; have q_f21_385 := Hide.out f21_385; have q_f21_508 := Hide.out f21_508; have q_f5_98 := Hide.out f5_98; have q_f7_98 := Hide.out f7_98; have q_f7_144 := Hide.out f7_144; have q_f7_272 := Hide.out f7_272; have q_f7_385 := Hide.out f7_385; have q_f7_508 := Hide.out f7_508; have g_c4_98 := i_rg c4_98; have g_v5_304 := i_rg v5_304; have g_x2 := i_rg x2; have g_z_273 := i_rg z_273; have g_z_387 := i_rg z_387; omega))) (cwV 1 hts (gd_V kw_88 kw_217 kw_218 kw_83 kw_216) rfl rfl rfl (by decide +kernel) ⟨Nat.le_of_ble_eq_true rfl, Nat.le_of_ble_eq_true rfl⟩) ⟨gblindH, va_recv hK hP (ci := 10) (q0 := k_1) rfl hk_503, fun U hU hW9 => gmkH hU hW9 hP hK hD hex hE hS hFc⟩ rfl rfl hl.1 rfl (lv_room (Nat.le_of_ble_eq_true rfl)) dX11_begin_255 ⟨(show dc_155_1 + dc_481 + (PC ws_504 + (0)) ≤ PC ws + (0) from (by have e0 : (0 : Int32).toInt = 0 := (by decide); have q_f_16 := Hide.out f_16; have q_f_25 := Hide.out f_25; omega)), (show ds_155_1 + ds_482 + (PS ws_504 + (0)) ≤ PS ws + (0) from (by have e0 : (0 : Int32).toInt = 0 := (by decide); have q_f_16 := Hide.out f_16; have q_f_25 := Hide.out f_25; omega))⟩) hS (fun q _ h => hFc q h) hFc (fun r_516 ws_517 t9 H1 locs ht9 hvm9 hw9 hB9 hz9 hk9 hS => ?_)
            obtain ⟨E_518, Fr_519, hG, hP1, hD1, dc_520, ds_521, hLd, hdc_520, hds_521⟩ := hB9
            rw [ht9] at hLd
            refine W_tight (hL0.tr hLd).1 (hL0.tr hLd).2.1 ?_
            clear hL0 hLd
            have hP : va_P (gD g) cl0 ws_517 H1 := by rw [← ht9]; exact hP1
            have hD : va_D A ws_517 := hD1.weaken (fun _ _ _ h => hFc _ h)
            obtain ⟨hw9, xp_522, xp_523⟩ := hw9
            clear hP1 hD1 hz9 hk9 hvm9 ht9 hw9
            generalize H1 = H at hP hS ⊢
            have aa_524 := a_r3_503
            have aa_525 := a_r4_503
            have aa_526 := a_r10_1
            have aa_527 := a_r11_1
            have aa_528 := a_r12_1
            have aa_529 := a_r13_1
            have aa_530 := a_r16_503
            have aa_531 := a_r17_503
            have aa_532 := a_r0_508
            have aa_533 := a_r5_98
            have aa_534 := a_r6_98
            have aa_535 := a_r7_508
            have aa_536 := a_r9_508
            have aa_537 := a_r10_508
            have aa_538 := a_r11_508
            have aa_539 := a_r12_508
            have aa_540 := a_r13_508
            have o_h0 := E_518.1 _ _ o_h0
            have a_r11_1 := E_518.1 _ _ a_r11_1
            refine lv_goto (tgt := 267) hx hb dX11_begin_258 (by decide) ?_
            obtain ⟨k_541, f_541, hk_541⟩ := gI_of a_r11_1
            obtain ⟨fs9, hk_542, hq_542⟩ := ((gF.a (F' := [(0, 0), (0, 1), (10, 5), (10, 6)]) Fr_519 (fun _ h => h))) _ _ _ hk_503
            refine opn_X11 hG hk_542 (fun r0_542 r1_542 r2_542 r3_542 n3_542 r4_542 n4_542 c5_542 c6_542 v7_542 c8_542 c9_542 r10_542 n10_542 r11_542 n11_542 r12_542 n12_542 r13_542 n13_542 r14_542 v15_542 r16_542 n16_542 r17_542 n17_542 hf9 o_r0_542 o_r1_542 o_r2_542 a_r3_542 f4_542 a_r4_542 f6_542 hz_c6_542 o_v7_542 a_r10_542 f10_542 a_r11_542 f12_542 a_r12_542 f14_542 a_r13_542 f16_542 o_r14_542 o_v15_542 a_r16_542 f20_542 a_r17_542 f22_542 f23_542 f24_542 f25_542 f26_542 f27_542 f28_542 => ?_)
            subst hf9
            obtain rfl := fe_r (hq_542 0 (by decide))
            have o_r0_1 := o_r0_542
            obtain rfl := fe_r (hq_542 1 (by decide))
            have o_r1_1 := o_r1_542
            have hn9 := fe_qr (hq_542 7 (by decide))
            subst hn9
            have o_b1 := o_v7_542 _ rfl
            obtain rfl := fe_i (hq_542 9 (by decide))
            obtain rfl := fe_r (hq_542 10 (by decide))
            have hn9 := gI_n hD ((E_518).1 _ _ aa_526) a_r10_542
            subst hn9
            have a_r10_1 := a_r10_542
            obtain rfl := fe_r (hq_542 11 (by decide))
            have hn9 := gI_n hD ((E_518).1 _ _ aa_527) a_r11_542
            subst hn9
            have a_r11_1 := a_r11_542
            obtain rfl := fe_r (hq_542 12 (by decide))
            have hn9 := gI_n hD ((E_518).1 _ _ aa_528) a_r12_542
            subst hn9
            have a_r12_1 := a_r12_542
            obtain rfl := fe_r (hq_542 13 (by decide))
            have hn9 := gI_n hD ((E_518).1 _ _ aa_529) a_r13_542
            subst hn9
            have a_r13_1 := a_r13_542
            obtain rfl := fe_q (hq_542 15 (by decide))
            have o_v15_1 := o_v15_542
            have hC9 : hol ws_517 r11_1 [(10, 11)] := (hol_u hG.u hk_542 (j := 11) rfl a_r11_1 (by decide))
            have hS9 : holS ws_517 r11_1 none := holS_n
            refine va_iast hx hb hK hP hD hS k_541 1 hk_541 rfl (i_in2 (by first | (have e0 : (0 : Int32).toInt = 0 := (by decide); have e24 : (24 : Int32).toInt = 24 := (by decide); have q_f12_1 := Hide.out f12_1; have q_f26_1 := Hide.out f26_1; have q_f_16 := Hide.out f_16; have q_f_25 := Hide.out f_25; have q_iv_305 := Hide.out iv_305; have q_iv_306 := Hide.out iv_306; have q_c_310 := i_nle c_310; have q_c_347 := i_nle c_347; have q_c_388 := i_nle c_388; have g_v5_304 := i_rg v5_304; have g_z_273 := i_rg z_273; have g_z_387 := i_rg z_387; omega) | (have e0 : (0 : Int32).toInt = 0 := (by decide); have e24 : (24 : Int32).toInt = 24 := (by decide); have q_f12_1 := Hide.out f12_1; have q_f26_1 := Hide.out f26_1; have q_f_16 := Hide.out f_16; have q_f_25 := Hide.out f_25; have q_iv_305 := Hide.out iv_305; have q_iv_306 := Hide.out iv_306; have q_c_310 := i_nle c_310; have q_c_347 := i_nle c_347; have q_c_388 := i_nle c_388; obtain ⟨u_z_273, q_z_273⟩ := i_add ez_273; have q_z_387 := i_len ez_387 f3_385; have g_c4_98 := i_rg c4_98; have g_v5_304 := i_rg v5_304; have g_x2 := i_rg x2; have g_z_273 := i_rg z_273; have g_z_387 := i_rg z_387; omega) | (have e0 : (0 : Int32).toInt = 0 := (by decide); have e24 : (24 : Int32).toInt = 24 := (by decide); have q_f12_1 := Hide.out f12_1; have q_f26_1 := Hide.out f26_1; have q_f_16 := Hide.out f_16; have q_f_25 := Hide.out f_25; have q_iv_305 := Hide.out iv_305; have q_iv_306 := Hide.out iv_306; have q_c_310 := i_nle c_310; have q_c_347 := i_nle c_347; have q_c_388 := i_nle c_388; obtain ⟨u_z_273, q_z_273⟩ := i_add ez_273; have q_z_387 := i_len ez_387 f3_385; have q_f3_98 := Hide.out f3_98; have q_f19_98 := Hide.out f19_98; have q_f20_98 := Hide.out f20_98; have q_f21_98 := Hide.out f21_98; have q_f28_98 := Hide.out f28_98; have q_f21_144 := Hide.out f21_144; have q_f21_272 := Hide.out f21_272; have q_f21_385 := Hide.out f21_385; have q_f21_508 := Hide.out f21_508; have g_c4_98 := i_rg c4_98; have g_v5_304 := i_rg v5_304; have g_x2 := i_rg x2; have g_z_273 := i_rg z_273; have g_z_387 := i_rg z_387; omega) | (have e0 : (0 : Int32).toInt = 0 := (by decide); have e24 : (24 : Int32).toInt = 24 := (by decide); have q_f12_1 := Hide.out f12_1; have q_f26_1 := Hide.out f26_1; have q_f_16 := Hide.out f_16; have q_f_25 := Hide.out f_25; have q_iv_305 := Hide.out iv_305; have q_iv_306 := Hide.out iv_306; have q_c_310 := i_nle c_310; have q_c_347 := i_nle c_347; have q_c_388 := i_nle c_388; obtain ⟨u_z_273, q_z_273⟩ := i_add ez_273; have q_z_387 := i_len ez_387 f3_385; have q_f3_98 := Hide.out f3_98; have q_f19_98 := Hide.out f19_98; have q_f20_98 := Hide.out f20_98; have q_f21_98 := Hide.out f21_98; have q_f28_98 := Hide.out f28_98; have q_f21_144 := Hide.out f21_144; have q_f21_272 := Hide.out f21_272; have q_f21_385 := Hide.out f21_385; have q_f21_508 := Hide.out f21_508; have q_f5_98 := Hide.out f5_98; have q_f7_98 := Hide.out f7_98; have q_f7_144 := Hide.out f7_144; have q_f7_272 := Hide.out f7_272; have q_f7_385 := Hide.out f7_385; have q_f7_508 := Hide.out f7_508; have g_c4_98 := i_rg c4_98; have g_v5_304 := i_rg v5_304; have g_x2 := i_rg x2; have g_z_273 := i_rg z_273; have g_z_387 := i_rg z_387; omega))) dX11_begin_267 (fun H locs hP hD hS => ?_)
            obtain ⟨ws_543, e_ws_543⟩ : ∃ z, z = ws_517.set k_541 (r11_1, .inl (g.cI, n11_1, .inl (upd f_541 (v5_304 : Int32).toNatClampNeg r_516))) := ⟨_, rfl⟩
            have hP : va_P (gD g) cl0 ws_543 H := by rw [e_ws_543]; exact hP
            have hD : va_D A ws_543 := by rw [e_ws_543]; exact hD
            have E_544 : gE ws_517 ws_543 := gE_ari e_ws_543 hk_541
            have hG : Good g ws_543 := Good_arI e_ws_543 hk_541 hG
            have Fr_545 : gF [] [(10, 11)] none ws_517 ws_543 := gF_ar e_ws_543 hk_541 rfl hC9 hS9
            have pp_546 := Fr_545.pp
            have hk_542 := gset_arO e_ws_543 hk_541 hk_542
            have o_h0 := E_544.1 _ _ o_h0
            have a_r11_1 := E_544.1 _ _ a_r11_1
            have o_r2_542 := E_544.1 _ _ o_r2_542
            have a_r3_542 := E_544.1 _ _ a_r3_542
            have a_r4_542 := E_544.1 _ _ a_r4_542
            have o_r14_542 := E_544.1 _ _ o_r14_542
            have a_r16_542 := E_544.1 _ _ a_r16_542
            have a_r17_542 := E_544.1 _ _ a_r17_542
            have o_r0_1 := E_544.1 _ _ o_r0_1
            have o_r1_1 := E_544.1 _ _ o_r1_1
            have o_b1 := E_544.1 _ _ o_b1
            have a_r10_1 := E_544.1 _ _ a_r10_1
            have a_r12_1 := E_544.1 _ _ a_r12_1
            have a_r13_1 := E_544.1 _ _ a_r13_1
            have o_v15_1 : ∀ b, v15_1 = some b → gC ws_543 b 7 := fun b h => E_544.1 _ _ (o_v15_1 b h)
            refine lv_aload_n hx hb dX11_begin_268 rfl (lv_at hl 1 rfl) ?_
            refine lv_aload_n hx hb dX11_begin_269 rfl (lv_at hl 1 rfl) ?_
            refine va_get (D := gD g) (ci := 10) (v := .ref r10_1) (C := RX11) (T := TX11) (N := 18) hx hb hts inX11 hown hK hP k_1 hk_542 rfl 10 (by decide) (hts _ kw_126) (fun _ h9 => h9) rfl dX11_begin_270 ?_
            refine lv_iload hx hb dX11_begin_273 (lv_at hl 3 rfl) ?_
            obtain ⟨k_547, f_547, hk_547⟩ := gI_of a_r10_1
            refine va_iald hx hb hK hP k_547 1 hk_547 rfl (i_in2 (by first | (have e0 : (0 : Int32).toInt = 0 := (by decide); have e24 : (24 : Int32).toInt = 24 := (by decide); have q_f10_1 := Hide.out f10_1; have q_f25_1 := Hide.out f25_1; have q_f_16 := Hide.out f_16; have q_f_25 := Hide.out f_25; have q_iv_305 := Hide.out iv_305; have q_iv_306 := Hide.out iv_306; have q_c_310 := i_nle c_310; have q_c_347 := i_nle c_347; have q_c_388 := i_nle c_388; have g_v5_304 := i_rg v5_304; have g_z_273 := i_rg z_273; have g_z_387 := i_rg z_387; omega) | (have e0 : (0 : Int32).toInt = 0 := (by decide); have e24 : (24 : Int32).toInt = 24 := (by decide); have q_f10_1 := Hide.out f10_1; have q_f25_1 := Hide.out f25_1; have q_f_16 := Hide.out f_16; have q_f_25 := Hide.out f_25; have q_iv_305 := Hide.out iv_305; have q_iv_306 := Hide.out iv_306; have q_c_310 := i_nle c_310; have q_c_347 := i_nle c_347; have q_c_388 := i_nle c_388; obtain ⟨u_z_273, q_z_273⟩ := i_add ez_273; have q_z_387 := i_len ez_387 f3_385; have g_c4_98 := i_rg c4_98; have g_v5_304 := i_rg v5_304; have g_x2 := i_rg x2; have g_z_273 := i_rg z_273; have g_z_387 := i_rg z_387; omega) | (have e0 : (0 : Int32).toInt = 0 := (by decide); have e24 : (24 : Int32).toInt = 24 := (by decide); have q_f10_1 := Hide.out f10_1; have q_f25_1 := Hide.out f25_1; have q_f_16 := Hide.out f_16; have q_f_25 := Hide.out f_25; have q_iv_305 := Hide.out iv_305; have q_iv_306 := Hide.out iv_306; have q_c_310 := i_nle c_310; have q_c_347 := i_nle c_347; have q_c_388 := i_nle c_388; obtain ⟨u_z_273, q_z_273⟩ := i_add ez_273; have q_z_387 := i_len ez_387 f3_385; have q_f3_98 := Hide.out f3_98; have q_f19_98 := Hide.out f19_98; have q_f20_98 := Hide.out f20_98; have q_f21_98 := Hide.out f21_98; have q_f28_98 := Hide.out f28_98; have q_f21_144 := Hide.out f21_144; have q_f21_272 := Hide.out f21_272; have q_f21_385 := Hide.out f21_385; have q_f21_508 := Hide.out f21_508; have g_c4_98 := i_rg c4_98; have g_v5_304 := i_rg v5_304; have g_x2 := i_rg x2; have g_z_273 := i_rg z_273; have g_z_387 := i_rg z_387; omega) | (have e0 : (0 : Int32).toInt = 0 := (by decide); have e24 : (24 : Int32).toInt = 24 := (by decide); have q_f10_1 := Hide.out f10_1; have q_f25_1 := Hide.out f25_1; have q_f_16 := Hide.out f_16; have q_f_25 := Hide.out f_25; have q_iv_305 := Hide.out iv_305; have q_iv_306 := Hide.out iv_306; have q_c_310 := i_nle c_310; have q_c_347 := i_nle c_347; have q_c_388 := i_nle c_388; obtain ⟨u_z_273, q_z_273⟩ := i_add ez_273; have q_z_387 := i_len ez_387 f3_385; have q_f3_98 := Hide.out f3_98; have q_f19_98 := Hide.out f19_98; have q_f20_98 := Hide.out f20_98; have q_f21_98 := Hide.out f21_98; have q_f28_98 := Hide.out f28_98; have q_f21_144 := Hide.out f21_144; have q_f21_272 := Hide.out f21_272; have q_f21_385 := Hide.out f21_385; have q_f21_508 := Hide.out f21_508; have q_f5_98 := Hide.out f5_98; have q_f7_98 := Hide.out f7_98; have q_f7_144 := Hide.out f7_144; have q_f7_272 := Hide.out f7_272; have q_f7_385 := Hide.out f7_385; have q_f7_508 := Hide.out f7_508; have g_c4_98 := i_rg c4_98; have g_v5_304 := i_rg v5_304; have g_x2 := i_rg x2; have g_z_273 := i_rg z_273; have g_z_387 := i_rg z_387; omega))) dX11_begin_275 ?_
            refine lv_topi (fun z_548 ez_548 => ?_)
            refine lv_aload_n hx hb dX11_begin_276 rfl (lv_at hl 1 rfl) ?_
            refine va_get (D := gD g) (ci := 10) (v := .ref r11_1) (C := RX11) (T := TX11) (N := 18) hx hb hts inX11 hown hK hP k_1 hk_542 rfl 11 (by decide) (hts _ kw_128) (fun _ h9 => h9) rfl dX11_begin_277 ?_
            refine lv_iload hx hb dX11_begin_280 (lv_at hl 3 rfl) ?_
            obtain ⟨k_549, f_549, hk_549⟩ := gI_of a_r11_1
            refine va_iald hx hb hK hP k_549 1 hk_549 rfl (i_in2 (by first | (have e0 : (0 : Int32).toInt = 0 := (by decide); have e24 : (24 : Int32).toInt = 24 := (by decide); have q_f12_1 := Hide.out f12_1; have q_f26_1 := Hide.out f26_1; have q_f_16 := Hide.out f_16; have q_f_25 := Hide.out f_25; have q_iv_305 := Hide.out iv_305; have q_iv_306 := Hide.out iv_306; have q_c_310 := i_nle c_310; have q_c_347 := i_nle c_347; have q_c_388 := i_nle c_388; have g_v5_304 := i_rg v5_304; have g_z_273 := i_rg z_273; have g_z_387 := i_rg z_387; omega) | (have e0 : (0 : Int32).toInt = 0 := (by decide); have e24 : (24 : Int32).toInt = 24 := (by decide); have q_f12_1 := Hide.out f12_1; have q_f26_1 := Hide.out f26_1; have q_f_16 := Hide.out f_16; have q_f_25 := Hide.out f_25; have q_iv_305 := Hide.out iv_305; have q_iv_306 := Hide.out iv_306; have q_c_310 := i_nle c_310; have q_c_347 := i_nle c_347; have q_c_388 := i_nle c_388; obtain ⟨u_z_273, q_z_273⟩ := i_add ez_273; have q_z_387 := i_len ez_387 f3_385; have g_c4_98 := i_rg c4_98; have g_v5_304 := i_rg v5_304; have g_x2 := i_rg x2; have g_z_273 := i_rg z_273; have g_z_387 := i_rg z_387; omega) | (have e0 : (0 : Int32).toInt = 0 := (by decide); have e24 : (24 : Int32).toInt = 24 := (by decide); have q_f12_1 := Hide.out f12_1; have q_f26_1 := Hide.out f26_1; have q_f_16 := Hide.out f_16; have q_f_25 := Hide.out f_25; have q_iv_305 := Hide.out iv_305; have q_iv_306 := Hide.out iv_306; have q_c_310 := i_nle c_310; have q_c_347 := i_nle c_347; have q_c_388 := i_nle c_388; obtain ⟨u_z_273, q_z_273⟩ := i_add ez_273; have q_z_387 := i_len ez_387 f3_385; have q_f3_98 := Hide.out f3_98; have q_f19_98 := Hide.out f19_98; have q_f20_98 := Hide.out f20_98; have q_f21_98 := Hide.out f21_98; have q_f28_98 := Hide.out f28_98; have q_f21_144 := Hide.out f21_144; have q_f21_272 := Hide.out f21_272; have q_f21_385 := Hide.out f21_385; have q_f21_508 := Hide.out f21_508; have g_c4_98 := i_rg c4_98; have g_v5_304 := i_rg v5_304; have g_x2 := i_rg x2; have g_z_273 := i_rg z_273; have g_z_387 := i_rg z_387; omega) | (have e0 : (0 : Int32).toInt = 0 := (by decide); have e24 : (24 : Int32).toInt = 24 := (by decide); have q_f12_1 := Hide.out f12_1; have q_f26_1 := Hide.out f26_1; have q_f_16 := Hide.out f_16; have q_f_25 := Hide.out f_25; have q_iv_305 := Hide.out iv_305; have q_iv_306 := Hide.out iv_306; have q_c_310 := i_nle c_310; have q_c_347 := i_nle c_347; have q_c_388 := i_nle c_388; obtain ⟨u_z_273, q_z_273⟩ := i_add ez_273; have q_z_387 := i_len ez_387 f3_385; have q_f3_98 := Hide.out f3_98; have q_f19_98 := Hide.out f19_98; have q_f20_98 := Hide.out f20_98; have q_f21_98 := Hide.out f21_98; have q_f28_98 := Hide.out f28_98; have q_f21_144 := Hide.out f21_144; have q_f21_272 := Hide.out f21_272; have q_f21_385 := Hide.out f21_385; have q_f21_508 := Hide.out f21_508; have q_f5_98 := Hide.out f5_98; have q_f7_98 := Hide.out f7_98; have q_f7_144 := Hide.out f7_144; have q_f7_272 := Hide.out f7_272; have q_f7_385 := Hide.out f7_385; have q_f7_508 := Hide.out f7_508; have g_c4_98 := i_rg c4_98; have g_v5_304 := i_rg v5_304; have g_x2 := i_rg x2; have g_z_273 := i_rg z_273; have g_z_387 := i_rg z_387; omega))) dX11_begin_282 ?_
            refine lv_topi (fun z_550 ez_550 => ?_)
            refine lv_iconst (v := 0) hx hb dX11_begin_283 (by decide) ?_
            have tq_551 : wcP ws_543 h0 0 (((10 + 8 * v5_304.toInt))) (103) := wcP_mo (Fr_545) (by decide) (by decide) (by decide) (by decide) (by decide) xp_523
            have hFc := gfree hD hS hA
            have pg_552 := ge_10_17 hD hk_542 rfl a_r17_542
            refine W_led (fun hL0 => ?_)
            refine va_callv (va_runV (As := [.int z_548, .int z_550, .int 0]) (rest := []) ⟨hx, hb, hml, hown, hts⟩ (m_X11_putMember l g H ws_543 h0 (z_548) (z_550) (0) (((10 + 8 * v5_304.toInt))) (103) hG o_h0 tq_551 (by first | (have e0 : (0 : Int32).toInt = 0 := (by decide); have e24 : (24 : Int32).toInt = 24 := (by decide); have e103 : (103 : Int32).toInt = 103 := (by decide); have q_f_16 := Hide.out f_16; have q_f_25 := Hide.out f_25; have q_iv_305 := Hide.out iv_305; have q_iv_306 := Hide.out iv_306; have q_c_310 := i_nle c_310; have q_c_347 := i_nle c_347; have q_c_388 := i_nle c_388; have g_v5_304 := i_rg v5_304; have g_z_273 := i_rg z_273; have g_z_387 := i_rg z_387; omega) | (have e0 : (0 : Int32).toInt = 0 := (by decide); have e24 : (24 : Int32).toInt = 24 := (by decide); have e103 : (103 : Int32).toInt = 103 := (by decide); have q_f_16 := Hide.out f_16; have q_f_25 := Hide.out f_25; have q_iv_305 := Hide.out iv_305; have q_iv_306 := Hide.out iv_306; have q_c_310 := i_nle c_310; have q_c_347 := i_nle c_347; have q_c_388 := i_nle c_388; obtain ⟨u_z_273, q_z_273⟩ := i_add ez_273; have q_z_387 := i_len ez_387 f3_385; have g_c4_98 := i_rg c4_98; have g_v5_304 := i_rg v5_304; have g_x2 := i_rg x2; have g_z_273 := i_rg z_273; have g_z_387 := i_rg z_387; omega) | (have e0 : (0 : Int32).toInt = 0 := (by decide); have e24 : (24 : Int32).toInt = 24 := (by decide); have e103 : (103 : Int32).toInt = 103 := (by decide); have q_f_16 := Hide.out f_16; have q_f_25 := Hide.out f_25; have q_iv_305 := Hide.out iv_305; have q_iv_306 := Hide.out iv_306; have q_c_310 := i_nle c_310; have q_c_347 := i_nle c_347; have q_c_388 := i_nle c_388; obtain ⟨u_z_273, q_z_273⟩ := i_add ez_273; have q_z_387 := i_len ez_387 f3_385; have q_f3_98 := Hide.out f3_98; have q_f19_98 := Hide.out f19_98; have q_f20_98 := Hide.out f20_98; have q_f21_98 := Hide.out f21_98; have q_f28_98 := Hide.out f28_98; have q_f21_144 := Hide.out f21_144; have q_f21_272 := Hide.out f21_272; have q_f21_385 := Hide.out f21_385; have q_f21_508 := Hide.out f21_508; have g_c4_98 := i_rg c4_98; have g_v5_304 := i_rg v5_304; have g_x2 := i_rg x2; have g_z_273 := i_rg z_273; have g_z_387 := i_rg z_387; omega) | (have e0 : (0 : Int32).toInt = 0 := (by decide); have e24 : (24 : Int32).toInt = 24 := (by decide); have e103 : (103 : Int32).toInt = 103 := (by decide); have q_f_16 := Hide.out f_16; have q_f_25 := Hide.out f_25; have q_iv_305 := Hide.out iv_305; have q_iv_306 := Hide.out iv_306; have q_c_310 := i_nle c_310; have q_c_347 := i_nle c_347; have q_c_388 := i_nle c_388; obtain ⟨u_z_273, q_z_273⟩ := i_add ez_273; have q_z_387 := i_len ez_387 f3_385; have q_f3_98 := Hide.out f3_98; have q_f19_98 := Hide.out f19_98; have q_f20_98 := Hide.out f20_98; have q_f21_98 := Hide.out f21_98; have q_f28_98 := Hide.out f28_98; have q_f21_144 := Hide.out f21_144; have q_f21_272 := Hide.out f21_272; have q_f21_385 := Hide.out f21_385; have q_f21_508 := Hide.out f21_508; have q_f5_98 := Hide.out f5_98; have q_f7_98 := Hide.out f7_98; have q_f7_144 := Hide.out f7_144; have q_f7_272 := Hide.out f7_272; have q_f7_385 := Hide.out f7_385; have q_f7_508 := Hide.out f7_508; have g_c4_98 := i_rg c4_98; have g_v5_304 := i_rg v5_304; have g_x2 := i_rg x2; have g_z_273 := i_rg z_273; have g_z_387 := i_rg z_387; omega))) (cwV 3 hts (gd_V kw_90 kw_258 kw_259 kw_83 kw_257) rfl rfl rfl (by decide +kernel) ⟨Nat.le_of_ble_eq_true rfl, Nat.le_of_ble_eq_true rfl⟩) ⟨gblindH, va_recv hK hP (ci := 10) (q0 := k_1) rfl hk_542, fun U hU hW9 => gmkH hU hW9 hP hK hD hex hE hS hFc⟩ rfl rfl hl.1 rfl (lv_room (Nat.le_of_ble_eq_true rfl)) dX11_begin_284 ⟨(show dc_155_1 + dc_481 + dc_520 + (PC ws_543 + (0)) ≤ PC ws + (0) from (by have e0 : (0 : Int32).toInt = 0 := (by decide); have q_f_16 := Hide.out f_16; have q_f_25 := Hide.out f_25; omega)), (show ds_155_1 + ds_482 + ds_521 + (PS ws_543 + (0)) ≤ PS ws + (0) from (by have e0 : (0 : Int32).toInt = 0 := (by decide); have q_f_16 := Hide.out f_16; have q_f_25 := Hide.out f_25; omega))⟩) hS (fun q _ h => hFc q h) hFc (fun  ws_553 t9 H1 locs ht9 hvm9 hw9 hB9 hz9 hk9 hS => ?_)
            obtain ⟨E_554, Fr_555, hG, hP1, hD1, dc_556, ds_557, hLd, hdc_556, hds_557⟩ := hB9
            rw [ht9] at hLd
            refine W_tight (hL0.tr hLd).1 (hL0.tr hLd).2.1 ?_
            clear hL0 hLd
            have hP : va_P (gD g) cl0 ws_553 H1 := by rw [← ht9]; exact hP1
            have hD : va_D A ws_553 := hD1.weaken (fun _ _ _ h => hFc _ h)
            obtain ⟨hw9, xp_558⟩ := hw9
            clear hP1 hD1 hz9 hk9 hvm9 ht9 hw9
            generalize H1 = H at hP hS ⊢
            have aa_559 := a_r3_542
            have aa_560 := a_r4_542
            have aa_561 := a_r10_1
            have aa_562 := a_r11_1
            have aa_563 := a_r12_1
            have aa_564 := a_r13_1
            have aa_565 := a_r16_542
            have aa_566 := a_r17_542
            have o_h0 := E_554.1 _ _ o_h0
            obtain ⟨z_567, ez_567⟩ : ∃ z : Int32, v5_304 + Int32.ofInt 1 = z := ⟨_, rfl⟩
            refine lv_iinc (v := z_567) (lv' := [(5, .int z_567), (6, .int 1), (0, .ref h0), (4, .int z_273)]) hx hb dX11_begin_287 hl (k := 3) rfl ez_567 (by decide) rfl (fun ls hl => ?_)
            refine lv_goto (tgt := 155) hx hb dX11_begin_290 (by decide) ?_
            have tq_568 : enP g ws_553 h0 := enP_mo ((gF.tr (gF.mo (F' := [(0, 0), (0, 1)]) (C' := [(0, 0), (6, 0), (10, 11)]) (S' := none) Fr_545 (fun _ h => absurd h List.not_mem_nil) (by decide) (Or.inr rfl)) (gF.mo (F' := [(0, 0), (0, 1)]) (C' := [(0, 0), (6, 0), (10, 11)]) (S' := none) Fr_555 (fun _ h => h) (by decide) (Or.inr rfl)))) (by decide) (by decide) (by decide) xp_522
            have tq_569 : wcP ws_553 h0 0 (10 + 8 * z_567.toInt) (103) := wcP_le (by have e0 : (0 : Int32).toInt = 0 := (by decide); have q_f_16 := Hide.out f_16; have q_f_25 := Hide.out f_25; have e09 : (0 : Int32).toInt = 0 := rfl; omega) (by first | (have e0 : (0 : Int32).toInt = 0 := (by decide); have e24 : (24 : Int32).toInt = 24 := (by decide); have q_f_16 := Hide.out f_16; have q_f_25 := Hide.out f_25; have q_iv_305 := Hide.out iv_305; have q_iv_306 := Hide.out iv_306; have q_c_310 := i_nle c_310; have q_c_347 := i_nle c_347; have q_c_388 := i_nle c_388; obtain ⟨u_z_567, q_z_567⟩ := i_iz ez_567 (by decide) (by decide); have g_v5_304 := i_rg v5_304; have g_z_273 := i_rg z_273; have g_z_387 := i_rg z_387; have g_z_567 := i_rg z_567; have e09 : (0 : Int32).toInt = 0 := rfl; omega) | (have e0 : (0 : Int32).toInt = 0 := (by decide); have e24 : (24 : Int32).toInt = 24 := (by decide); have q_f_16 := Hide.out f_16; have q_f_25 := Hide.out f_25; have q_iv_305 := Hide.out iv_305; have q_iv_306 := Hide.out iv_306; have q_c_310 := i_nle c_310; have q_c_347 := i_nle c_347; have q_c_388 := i_nle c_388; obtain ⟨u_z_567, q_z_567⟩ := i_iz ez_567 (by decide) (by decide); obtain ⟨u_z_273, q_z_273⟩ := i_add ez_273; have q_z_387 := i_len ez_387 f3_385; have g_c4_98 := i_rg c4_98; have g_v5_304 := i_rg v5_304; have g_x2 := i_rg x2; have g_z_273 := i_rg z_273; have g_z_387 := i_rg z_387; have g_z_567 := i_rg z_567; have e09 : (0 : Int32).toInt = 0 := rfl; omega) | (have e0 : (0 : Int32).toInt = 0 := (by decide); have e24 : (24 : Int32).toInt = 24 := (by decide); have q_f_16 := Hide.out f_16; have q_f_25 := Hide.out f_25; have q_iv_305 := Hide.out iv_305; have q_iv_306 := Hide.out iv_306; have q_c_310 := i_nle c_310; have q_c_347 := i_nle c_347; have q_c_388 := i_nle c_388; obtain ⟨u_z_567, q_z_567⟩ := i_iz ez_567 (by decide) (by decide); obtain ⟨u_z_273, q_z_273⟩ := i_add ez_273; have q_z_387 := i_len ez_387 f3_385; have q_f3_98 := Hide.out f3_98; have q_f19_98 := Hide.out f19_98; have q_f20_98 := Hide.out f20_98; have q_f21_98 := Hide.out f21_98; have q_f28_98 := Hide.out f28_98; have q_f21_144 := Hide.out f21_144; have q_f21_272 := Hide.out f21_272; have q_f21_385 := Hide.out f21_385; have q_f21_508 := Hide.out f21_508; have g_c4_98 := i_rg c4_98; have g_v5_304 := i_rg v5_304; have g_x2 := i_rg x2; have g_z_273 := i_rg z_273; have g_z_387 := i_rg z_387; have g_z_567 := i_rg z_567; have e09 : (0 : Int32).toInt = 0 := rfl; omega) | (have e0 : (0 : Int32).toInt = 0 := (by decide); have e24 : (24 : Int32).toInt = 24 := (by decide); have q_f_16 := Hide.out f_16; have q_f_25 := Hide.out f_25; have q_iv_305 := Hide.out iv_305; have q_iv_306 := Hide.out iv_306; have q_c_310 := i_nle c_310; have q_c_347 := i_nle c_347; have q_c_388 := i_nle c_388; obtain ⟨u_z_567, q_z_567⟩ := i_iz ez_567 (by decide) (by decide); obtain ⟨u_z_273, q_z_273⟩ := i_add ez_273; have q_z_387 := i_len ez_387 f3_385; have q_f3_98 := Hide.out f3_98; have q_f19_98 := Hide.out f19_98; have q_f20_98 := Hide.out f20_98; have q_f21_98 := Hide.out f21_98; have q_f28_98 := Hide.out f28_98; have q_f21_144 := Hide.out f21_144; have q_f21_272 := Hide.out f21_272; have q_f21_385 := Hide.out f21_385; have q_f21_508 := Hide.out f21_508; have q_f5_98 := Hide.out f5_98; have q_f7_98 := Hide.out f7_98; have q_f7_144 := Hide.out f7_144; have q_f7_272 := Hide.out f7_272; have q_f7_385 := Hide.out f7_385; have q_f7_508 := Hide.out f7_508; have g_c4_98 := i_rg c4_98; have g_v5_304 := i_rg v5_304; have g_x2 := i_rg x2; have g_z_273 := i_rg z_273; have g_z_387 := i_rg z_387; have g_z_567 := i_rg z_567; have e09 : (0 : Int32).toInt = 0 := rfl; omega)) (by have e0 : (0 : Int32).toInt = 0 := (by decide); have e103 : (103 : Int32).toInt = 103 := (by decide); have q_f_16 := Hide.out f_16; have q_f_25 := Hide.out f_25; have e09 : (0 : Int32).toInt = 0 := rfl; omega) xp_558
            obtain ⟨fs9, hk_570, hq_570⟩ := ((gF.a (F' := [(0, 0), (0, 1)]) Fr_555 (fun _ h => h))) _ _ _ hk_542
            refine opn_X11 hG hk_570 (fun r0_570 r1_570 r2_570 r3_570 n3_570 r4_570 n4_570 c5_570 c6_570 v7_570 c8_570 c9_570 r10_570 n10_570 r11_570 n11_570 r12_570 n12_570 r13_570 n13_570 r14_570 v15_570 r16_570 n16_570 r17_570 n17_570 hf9 o_r0_570 o_r1_570 o_r2_570 a_r3_570 f4_570 a_r4_570 f6_570 hz_c6_570 o_v7_570 a_r10_570 f10_570 a_r11_570 f12_570 a_r12_570 f14_570 a_r13_570 f16_570 o_r14_570 o_v15_570 a_r16_570 f20_570 a_r17_570 f22_570 f23_570 f24_570 f25_570 f26_570 f27_570 f28_570 => ?_)
            subst hf9
            obtain rfl := fe_r (hq_570 0 (by decide))
            have o_r0_1 := o_r0_570
            obtain rfl := fe_r (hq_570 1 (by decide))
            have o_r1_1 := o_r1_570
            have hn9 := fe_qr (hq_570 7 (by decide))
            subst hn9
            have o_b1 := o_v7_570 _ rfl
            obtain rfl := fe_i (hq_570 9 (by decide))
            obtain rfl := fe_r (hq_570 10 (by decide))
            have hn9 := gI_n hD ((E_554).1 _ _ aa_561) a_r10_570
            subst hn9
            have a_r10_1 := a_r10_570
            obtain rfl := fe_r (hq_570 11 (by decide))
            have hn9 := gI_n hD ((E_554).1 _ _ aa_562) a_r11_570
            subst hn9
            have a_r11_1 := a_r11_570
            obtain rfl := fe_r (hq_570 12 (by decide))
            have hn9 := gI_n hD ((E_554).1 _ _ aa_563) a_r12_570
            subst hn9
            have a_r12_1 := a_r12_570
            obtain rfl := fe_r (hq_570 13 (by decide))
            have hn9 := gI_n hD ((E_554).1 _ _ aa_564) a_r13_570
            subst hn9
            have a_r13_1 := a_r13_570
            obtain rfl := fe_q (hq_570 15 (by decide))
            have o_v15_1 := o_v15_570
            exact ih_155 _ (by first | (have e0 : (0 : Int32).toInt = 0 := (by decide); have q_f_16 := Hide.out f_16; have q_f_25 := Hide.out f_25; obtain ⟨u_z_567, q_z_567⟩ := i_iz ez_567 (by decide) (by decide); have g_v5_304 := i_rg v5_304; have g_z_567 := i_rg z_567; omega) | (have e0 : (0 : Int32).toInt = 0 := (by decide); have e24 : (24 : Int32).toInt = 24 := (by decide); have q_f_16 := Hide.out f_16; have q_f_25 := Hide.out f_25; obtain ⟨u_z_567, q_z_567⟩ := i_iz ez_567 (by decide) (by decide); have q_iv_305 := Hide.out iv_305; have q_iv_306 := Hide.out iv_306; have q_c_310 := i_nle c_310; have q_c_347 := i_nle c_347; have q_c_388 := i_nle c_388; have g_v5_304 := i_rg v5_304; have g_z_273 := i_rg z_273; have g_z_387 := i_rg z_387; have g_z_567 := i_rg z_567; omega) | (have e0 : (0 : Int32).toInt = 0 := (by decide); have e24 : (24 : Int32).toInt = 24 := (by decide); have q_f_16 := Hide.out f_16; have q_f_25 := Hide.out f_25; obtain ⟨u_z_567, q_z_567⟩ := i_iz ez_567 (by decide) (by decide); have q_iv_305 := Hide.out iv_305; have q_iv_306 := Hide.out iv_306; have q_c_310 := i_nle c_310; have q_c_347 := i_nle c_347; have q_c_388 := i_nle c_388; obtain ⟨u_z_273, q_z_273⟩ := i_add ez_273; have q_z_387 := i_len ez_387 f3_385; have g_c4_98 := i_rg c4_98; have g_v5_304 := i_rg v5_304; have g_x2 := i_rg x2; have g_z_273 := i_rg z_273; have g_z_387 := i_rg z_387; have g_z_567 := i_rg z_567; omega) | (have e0 : (0 : Int32).toInt = 0 := (by decide); have e24 : (24 : Int32).toInt = 24 := (by decide); have q_f_16 := Hide.out f_16; have q_f_25 := Hide.out f_25; obtain ⟨u_z_567, q_z_567⟩ := i_iz ez_567 (by decide) (by decide); have q_iv_305 := Hide.out iv_305; have q_iv_306 := Hide.out iv_306; have q_c_310 := i_nle c_310; have q_c_347 := i_nle c_347; have q_c_388 := i_nle c_388; obtain ⟨u_z_273, q_z_273⟩ := i_add ez_273; have q_z_387 := i_len ez_387 f3_385; have q_f3_98 := Hide.out f3_98; have q_f19_98 := Hide.out f19_98; have q_f20_98 := Hide.out f20_98; have q_f21_98 := Hide.out f21_98; have q_f28_98 := Hide.out f28_98; have q_f21_144 := Hide.out f21_144; have q_f21_272 := Hide.out f21_272; have q_f21_385 := Hide.out f21_385; have q_f21_508 := Hide.out f21_508; have g_c4_98 := i_rg c4_98; have g_v5_304 := i_rg v5_304; have g_x2 := i_rg x2; have g_z_273 := i_rg z_273; have g_z_387 := i_rg z_387; have g_z_567 := i_rg z_567; omega)) (z_567) (dc_155_1 + dc_481 + dc_520 + dc_556) (ds_155_1 + ds_482 + ds_521 + ds_557) ws_553 H locs ls rfl (by first | (have e0 : (0 : Int32).toInt = 0 := (by decide); have q_f_16 := Hide.out f_16; have q_f_25 := Hide.out f_25; obtain ⟨u_z_567, q_z_567⟩ := i_iz ez_567 (by decide) (by decide); have g_v5_304 := i_rg v5_304; have g_z_567 := i_rg z_567; omega) | (have e0 : (0 : Int32).toInt = 0 := (by decide); have e24 : (24 : Int32).toInt = 24 := (by decide); have q_f_16 := Hide.out f_16; have q_f_25 := Hide.out f_25; obtain ⟨u_z_567, q_z_567⟩ := i_iz ez_567 (by decide) (by decide); have q_iv_305 := Hide.out iv_305; have q_iv_306 := Hide.out iv_306; have q_c_310 := i_nle c_310; have q_c_347 := i_nle c_347; have q_c_388 := i_nle c_388; have g_v5_304 := i_rg v5_304; have g_z_273 := i_rg z_273; have g_z_387 := i_rg z_387; have g_z_567 := i_rg z_567; omega) | (have e0 : (0 : Int32).toInt = 0 := (by decide); have e24 : (24 : Int32).toInt = 24 := (by decide); have q_f_16 := Hide.out f_16; have q_f_25 := Hide.out f_25; obtain ⟨u_z_567, q_z_567⟩ := i_iz ez_567 (by decide) (by decide); have q_iv_305 := Hide.out iv_305; have q_iv_306 := Hide.out iv_306; have q_c_310 := i_nle c_310; have q_c_347 := i_nle c_347; have q_c_388 := i_nle c_388; obtain ⟨u_z_273, q_z_273⟩ := i_add ez_273; have q_z_387 := i_len ez_387 f3_385; have g_c4_98 := i_rg c4_98; have g_v5_304 := i_rg v5_304; have g_x2 := i_rg x2; have g_z_273 := i_rg z_273; have g_z_387 := i_rg z_387; have g_z_567 := i_rg z_567; omega) | (have e0 : (0 : Int32).toInt = 0 := (by decide); have e24 : (24 : Int32).toInt = 24 := (by decide); have q_f_16 := Hide.out f_16; have q_f_25 := Hide.out f_25; obtain ⟨u_z_567, q_z_567⟩ := i_iz ez_567 (by decide) (by decide); have q_iv_305 := Hide.out iv_305; have q_iv_306 := Hide.out iv_306; have q_c_310 := i_nle c_310; have q_c_347 := i_nle c_347; have q_c_388 := i_nle c_388; obtain ⟨u_z_273, q_z_273⟩ := i_add ez_273; have q_z_387 := i_len ez_387 f3_385; have q_f3_98 := Hide.out f3_98; have q_f19_98 := Hide.out f19_98; have q_f20_98 := Hide.out f20_98; have q_f21_98 := Hide.out f21_98; have q_f28_98 := Hide.out f28_98; have q_f21_144 := Hide.out f21_144; have q_f21_272 := Hide.out f21_272; have q_f21_385 := Hide.out f21_385; have q_f21_508 := Hide.out f21_508; have g_c4_98 := i_rg c4_98; have g_v5_304 := i_rg v5_304; have g_x2 := i_rg x2; have g_z_273 := i_rg z_273; have g_z_387 := i_rg z_387; have g_z_567 := i_rg z_567; omega)) (by first | (have e0 : (0 : Int32).toInt = 0 := (by decide); have q_f_16 := Hide.out f_16; have q_f_25 := Hide.out f_25; obtain ⟨u_z_273, q_z_273⟩ := i_add ez_273; have q_c_310 := i_nle c_310; obtain ⟨u_z_567, q_z_567⟩ := i_iz ez_567 (by decide) (by decide); have g_c4_98 := i_rg c4_98; have g_v5_304 := i_rg v5_304; have g_x2 := i_rg x2; have g_z_273 := i_rg z_273; have g_z_567 := i_rg z_567; omega) | (have e0 : (0 : Int32).toInt = 0 := (by decide); have e24 : (24 : Int32).toInt = 24 := (by decide); have q_f_16 := Hide.out f_16; have q_f_25 := Hide.out f_25; obtain ⟨u_z_273, q_z_273⟩ := i_add ez_273; have q_c_310 := i_nle c_310; obtain ⟨u_z_567, q_z_567⟩ := i_iz ez_567 (by decide) (by decide); have q_f19_98 := Hide.out f19_98; have q_iv_305 := Hide.out iv_305; have q_iv_306 := Hide.out iv_306; have q_c_347 := i_nle c_347; have q_c_388 := i_nle c_388; have g_c4_98 := i_rg c4_98; have g_v5_304 := i_rg v5_304; have g_x2 := i_rg x2; have g_z_273 := i_rg z_273; have g_z_387 := i_rg z_387; have g_z_567 := i_rg z_567; omega) | (have e0 : (0 : Int32).toInt = 0 := (by decide); have e24 : (24 : Int32).toInt = 24 := (by decide); have q_f_16 := Hide.out f_16; have q_f_25 := Hide.out f_25; obtain ⟨u_z_273, q_z_273⟩ := i_add ez_273; have q_c_310 := i_nle c_310; obtain ⟨u_z_567, q_z_567⟩ := i_iz ez_567 (by decide) (by decide); have q_f19_98 := Hide.out f19_98; have q_iv_305 := Hide.out iv_305; have q_iv_306 := Hide.out iv_306; have q_c_347 := i_nle c_347; have q_c_388 := i_nle c_388; have q_f3_98 := Hide.out f3_98; have q_f20_98 := Hide.out f20_98; have q_f21_98 := Hide.out f21_98; have q_f28_98 := Hide.out f28_98; have q_f21_144 := Hide.out f21_144; have q_f21_272 := Hide.out f21_272; have q_f21_385 := Hide.out f21_385; have q_z_387 := i_len ez_387 f3_385; have q_f21_508 := Hide.out f21_508; have g_c4_98 := i_rg c4_98; have g_v5_304 := i_rg v5_304; have g_x2 := i_rg x2; have g_z_273 := i_rg z_273; have g_z_387 := i_rg z_387; have g_z_567 := i_rg z_567; omega) | (have e0 : (0 : Int32).toInt = 0 := (by decide); have e24 : (24 : Int32).toInt = 24 := (by decide); have q_f_16 := Hide.out f_16; have q_f_25 := Hide.out f_25; obtain ⟨u_z_273, q_z_273⟩ := i_add ez_273; have q_c_310 := i_nle c_310; obtain ⟨u_z_567, q_z_567⟩ := i_iz ez_567 (by decide) (by decide); have q_f19_98 := Hide.out f19_98; have q_iv_305 := Hide.out iv_305; have q_iv_306 := Hide.out iv_306; have q_c_347 := i_nle c_347; have q_c_388 := i_nle c_388; have q_f3_98 := Hide.out f3_98; have q_f20_98 := Hide.out f20_98; have q_f21_98 := Hide.out f21_98; have q_f28_98 := Hide.out f28_98; have q_f21_144 := Hide.out f21_144; have q_f21_272 := Hide.out f21_272; have q_f21_385 := Hide.out f21_385; have q_z_387 := i_len ez_387 f3_385; have q_f21_508 := Hide.out f21_508; have q_f5_98 := Hide.out f5_98; have q_f7_98 := Hide.out f7_98; have q_f7_144 := Hide.out f7_144; have q_f7_272 := Hide.out f7_272; have q_f7_385 := Hide.out f7_385; have q_f7_508 := Hide.out f7_508; have g_c4_98 := i_rg c4_98; have g_v5_304 := i_rg v5_304; have g_x2 := i_rg x2; have g_z_273 := i_rg z_273; have g_z_387 := i_rg z_387; have g_z_567 := i_rg z_567; omega)) ((E_308.tr (E_479.tr (E_505.tr (E_518.tr (E_544.tr E_554)))))) ((gF.tr Fr_309 (gF.tr (gF.mo (F' := [(0, 0), (0, 1), (10, 5), (10, 6)]) (C' := [(0, 0), (6, 0), (10, 3), (10, 4), (10, 10), (10, 11)]) (S' := none) Fr_480 (fun _ h => h) (by decide) (Or.inr rfl)) (gF.tr (gF.mo (F' := [(0, 0), (0, 1), (10, 5), (10, 6)]) (C' := [(0, 0), (6, 0), (10, 3), (10, 4), (10, 10), (10, 11)]) (S' := none) Fr_506 (fun _ h => absurd h List.not_mem_nil) (by decide) (Or.inr rfl)) (gF.tr (gF.mo (F' := [(0, 0), (0, 1), (10, 5), (10, 6)]) (C' := [(0, 0), (6, 0), (10, 3), (10, 4), (10, 10), (10, 11)]) (S' := none) Fr_519 (fun _ h => h) (by decide) (Or.inr rfl)) (gF.tr (gF.mo (F' := [(0, 0), (0, 1), (10, 5), (10, 6)]) (C' := [(0, 0), (6, 0), (10, 3), (10, 4), (10, 10), (10, 11)]) (S' := none) Fr_545 (fun _ h => absurd h List.not_mem_nil) (by decide) (Or.inr rfl)) (gF.mo (F' := [(0, 0), (0, 1), (10, 5), (10, 6)]) (C' := [(0, 0), (6, 0), (10, 3), (10, 4), (10, 10), (10, 11)]) (S' := none) Fr_555 (by decide) (by decide) (Or.inr rfl)))))))) hG (by have e0 : (0 : Int32).toInt = 0 := (by decide); have q_f_16 := Hide.out f_16; have q_f_25 := Hide.out f_25; omega) (by have e0 : (0 : Int32).toInt = 0 := (by decide); have q_f_16 := Hide.out f_16; have q_f_25 := Hide.out f_25; omega) tq_568 tq_569 (gN_of hD hk_570 (j := 7) rfl) hP hD hS (lv_sub hl [2, 3, 0] rfl)
  have tq_571 : enP g ws_279 h0 := enP_mo ((gF.tr (gF.mo (F' := [(0, 0), (0, 1)]) (C' := [(0, 0), (6, 0)]) (S' := none) Fr_191 (fun _ h => h) (fun _ h => h) (Or.inl rfl)) (gF.tr (gF.mo (F' := [(0, 0), (0, 1)]) (C' := [(0, 0), (6, 0)]) (S' := none) Fr_213 (fun _ h => h) (fun _ h => h) (Or.inl rfl)) (gF.tr (gF.mo (F' := [(0, 0), (0, 1)]) (C' := [(0, 0), (6, 0)]) (S' := none) Fr_235 (fun _ h => h) (fun _ h => h) (Or.inl rfl)) (gF.tr (gF.mo (F' := [(0, 0), (0, 1)]) (C' := [(0, 0), (6, 0)]) (S' := none) Fr_257 (fun _ h => h) (fun _ h => h) (Or.inl rfl)) (gF.mo (F' := [(0, 0), (0, 1)]) (C' := [(0, 0), (6, 0)]) (S' := none) Fr_281 (fun _ h => h) (fun _ h => h) (Or.inl rfl))))))) (by decide) (by decide) (by decide) xp_182
  have tq_572 : wcP ws_279 h0 0 (10 + 8 * (0 : Int32).toInt) (103) := wcP_le (by have e0 : (0 : Int32).toInt = 0 := (by decide); have q_f_16 := Hide.out f_16; have q_f_25 := Hide.out f_25; have e09 : (0 : Int32).toInt = 0 := rfl; omega) (by have e0 : (0 : Int32).toInt = 0 := (by decide); have q_f_16 := Hide.out f_16; have q_f_25 := Hide.out f_25; have e09 : (0 : Int32).toInt = 0 := rfl; omega) (by have e0 : (0 : Int32).toInt = 0 := (by decide); have e3 : (3 : Int32).toInt = 3 := (by decide); have e103 : (103 : Int32).toInt = 103 := (by decide); have q_f_16 := Hide.out f_16; have q_f_25 := Hide.out f_25; have e09 : (0 : Int32).toInt = 0 := rfl; omega) tq_303
  obtain ⟨fs9, hk_573, hq_573⟩ := ((gF.a (F' := [(0, 0), (0, 1)]) Fr_281 (fun _ h => h))) _ _ _ hk_271
  refine opn_X11 hG hk_573 (fun r0_573 r1_573 r2_573 r3_573 n3_573 r4_573 n4_573 c5_573 c6_573 v7_573 c8_573 c9_573 r10_573 n10_573 r11_573 n11_573 r12_573 n12_573 r13_573 n13_573 r14_573 v15_573 r16_573 n16_573 r17_573 n17_573 hf9 o_r0_573 o_r1_573 o_r2_573 a_r3_573 f4_573 a_r4_573 f6_573 hz_c6_573 o_v7_573 a_r10_573 f10_573 a_r11_573 f12_573 a_r12_573 f14_573 a_r13_573 f16_573 o_r14_573 o_v15_573 a_r16_573 f20_573 a_r17_573 f22_573 f23_573 f24_573 f25_573 f26_573 f27_573 f28_573 => ?_)
  subst hf9
  obtain rfl := fe_r (hq_573 0 (by decide))
  have o_r0_1 := o_r0_573
  obtain rfl := fe_r (hq_573 1 (by decide))
  have o_r1_1 := o_r1_573
  have hn9 := fe_qr (hq_573 7 (by decide))
  subst hn9
  have o_b1 := o_v7_573 _ rfl
  obtain rfl := fe_i (hq_573 9 (by decide))
  obtain rfl := fe_r (hq_573 10 (by decide))
  have hn9 := gI_n hD ((E_280).1 _ _ aa_287) a_r10_573
  subst hn9
  have a_r10_1 := a_r10_573
  obtain rfl := fe_r (hq_573 11 (by decide))
  have hn9 := gI_n hD ((E_280).1 _ _ aa_288) a_r11_573
  subst hn9
  have a_r11_1 := a_r11_573
  obtain rfl := fe_r (hq_573 12 (by decide))
  have hn9 := gI_n hD ((E_280).1 _ _ aa_289) a_r12_573
  subst hn9
  have a_r12_1 := a_r12_573
  obtain rfl := fe_r (hq_573 13 (by decide))
  have hn9 := gI_n hD ((E_280).1 _ _ aa_290) a_r13_573
  subst hn9
  have a_r13_1 := a_r13_573
  obtain rfl := fe_q (hq_573 15 (by decide))
  have o_v15_1 := o_v15_573
  exact J_155 _ (0) (0 + dc_88 + dc_108 + dc_134 + dc_154 + dc_180 + dc_192 + dc_214 + dc_236 + dc_258 + dc_282) (0 + ds_89 + ds_109 + ds_135 + ds_155 + ds_181 + ds_193 + ds_215 + ds_237 + ds_259 + ds_283) ws_279 H locs ls rfl (by have e0 : (0 : Int32).toInt = 0 := (by decide); have q_f_16 := Hide.out f_16; have q_f_25 := Hide.out f_25; omega) (by first | (have e0 : (0 : Int32).toInt = 0 := (by decide); have q_f_16 := Hide.out f_16; have q_f_25 := Hide.out f_25; obtain ⟨u_z_273, q_z_273⟩ := i_add ez_273; have g_c4_98 := i_rg c4_98; have g_x2 := i_rg x2; have g_z_273 := i_rg z_273; omega) | (have e0 : (0 : Int32).toInt = 0 := (by decide); have q_f_16 := Hide.out f_16; have q_f_25 := Hide.out f_25; obtain ⟨u_z_273, q_z_273⟩ := i_add ez_273; have q_f19_98 := Hide.out f19_98; have g_c4_98 := i_rg c4_98; have g_x2 := i_rg x2; have g_z_273 := i_rg z_273; omega) | (have e0 : (0 : Int32).toInt = 0 := (by decide); have q_f_16 := Hide.out f_16; have q_f_25 := Hide.out f_25; obtain ⟨u_z_273, q_z_273⟩ := i_add ez_273; have q_f19_98 := Hide.out f19_98; have q_f3_98 := Hide.out f3_98; have q_f20_98 := Hide.out f20_98; have q_f21_98 := Hide.out f21_98; have q_f28_98 := Hide.out f28_98; have q_f21_144 := Hide.out f21_144; have q_f21_272 := Hide.out f21_272; have g_c4_98 := i_rg c4_98; have g_x2 := i_rg x2; have g_z_273 := i_rg z_273; omega) | (have e0 : (0 : Int32).toInt = 0 := (by decide); have q_f_16 := Hide.out f_16; have q_f_25 := Hide.out f_25; obtain ⟨u_z_273, q_z_273⟩ := i_add ez_273; have q_f19_98 := Hide.out f19_98; have q_f3_98 := Hide.out f3_98; have q_f20_98 := Hide.out f20_98; have q_f21_98 := Hide.out f21_98; have q_f28_98 := Hide.out f28_98; have q_f21_144 := Hide.out f21_144; have q_f21_272 := Hide.out f21_272; have q_f5_98 := Hide.out f5_98; have q_f7_98 := Hide.out f7_98; have q_f7_144 := Hide.out f7_144; have q_f7_272 := Hide.out f7_272; have g_c4_98 := i_rg c4_98; have g_x2 := i_rg x2; have g_z_273 := i_rg z_273; omega)) (gE.rf) (gF.rf) hG (by have e0 : (0 : Int32).toInt = 0 := (by decide); have q_f_16 := Hide.out f_16; have q_f_25 := Hide.out f_25; omega) (by have e0 : (0 : Int32).toInt = 0 := (by decide); have q_f_16 := Hide.out f_16; have q_f_25 := Hide.out f_25; omega) tq_571 tq_572 (gN_of hD hk_573 (j := 7) rfl) hP hD hS (lv_sub hl [3, 1, 0] rfl)
