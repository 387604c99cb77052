set_option maxHeartbeats 1000000 in
set_option maxRecDepth 100000 in
theorem m_X12_run (l : Launch) (g : Gm) (H0 : Heap) (ws : va_W) (h0 : Nat) (x1 : Int32) (x2 : Int32) (hG : Good g ws) (o_h0 : gC ws h0 11) (tk0 : tpM ws h0) (tk1 : tpA g ws h0) : Met l yX12_run (wt yX12_run cX12_run 4 (some .int)) ({ frames := 7, cells := PC ws + (0), slots := PS ws + (0), locals := 157 }) (va_Pc [.ref h0, .int x1, .int x2] (st_H g H0 ws)) (va_Qi (fun (r : Int32) (u9 : va_W) => (True) ∧ (tpM u9 h0) ∧ (tpA g u9 h0)) (gQ2 g [(5, 2), (5, 3), (5, 4), (5, 5), (5, 7), (5, 8), (5, 9), (5, 11), (5, 12), (5, 13), (5, 14), (5, 15), (5, 16), (5, 17), (5, 18), (5, 19)] [(5, 1), (5, 2), (5, 4), (5, 8), (5, 9), (5, 10)] none (va_A ws H0.size) ws H0 (0) (0)) (va_A ws H0.size)) (PC ws + (0)) (PS ws + (0)) (va_A ws H0.size) := by
  refine Met.ofW (cc := cX12_run) (maxL := 4) (ret := (some .int)) (by decide) rfl ?_
  intro p e s m args below meth c s₁ B hml hv
  obtain ⟨rfl, hH0, hsz, hP, hK, hD0, hex, hE⟩ := hv
  have hx := B.exec
  have hb := B.bytes
  have hr := B.returns
  have hts0 := atoms_spec (ws := wt yX12_run cX12_run 4 (some .int)) B.pre
  have hts : ∀ w ∈ tb, w.before _ s = true := fun w h => hts0 w (List.mem_cons_of_mem _ h)
  have hown : s.vm.findClass RX12 = some m.cls := findClass_of_methodNamed B.named
  subst hH0
  have hD := hD0.self (sz := s.heap.size)
  generalize hAe : va_A ws s.heap.size = A at hD hE ⊢
  have hA : ∀ q : Nat, s.heap.size ≤ q → A q := fun q h => by rw [← hAe]; exact Or.inr h
  have hS : va_S A s.heap s.heap [] := va_S.rf
  have hl := lv_entry ([.ref h0, .int x1, .int x2]) (n := 4) (Nat.le_of_ble_eq_true rfl)
  rw [lg_entry_eq]
  generalize (lg_sl ([.ref h0, .int x1, .int x2]) ++ List.replicate (4 - (lg_sl ([.ref h0, .int x1, .int x2])).length) Slot.unset).toArray = ls at hl ⊢
  have hl : lv_has ls 4 [(0, .ref h0), (1, .int x1), (2, .int x2)] := hl
  refine lv_aload_n hx hb dX12_run_0 rfl (lv_at hl 0 rfl) ?_
  obtain ⟨k_1, fs9, hk_1⟩ := gC_of o_h0
  obtain ⟨r0_1, r1_1, r2_1, r3_1, n3_1, r4_1, r5_1, r6_1, r7_1, r8_1, r9_1, c10_1, c11_1, c12_1, c13_1, c14_1, c15_1, c16_1, c17_1, rfl, o_r0_1, o_r1_1, o_r2_1, a_r3_1, f4_1, o_r4_1, o_r5_1, o_r6_1, o_r7_1, o_r8_1, o_r9_1, f11_1, f12_1, f13_1, f14_1, f15_1, f16_1, f17_1, -⟩ := (hG.1 _ _ _ _ hk_1).hX12 rfl
  refine va_get (D := gD g) (ci := 11) (v := .ref r7_1) (C := RX12) (T := TX12) (N := 18) hx hb hts inX12 hown hK hP k_1 hk_1 rfl 7 (by decide) (hts _ kw_286) (fun _ h9 => h9) rfl dX12_run_1 ?_
  refine lv_iload_n hx hb dX12_run_4 rfl (lv_at hl 1 rfl) ?_
  refine lv_iload_n hx hb dX12_run_5 rfl (lv_at hl 2 rfl) ?_
  have hFc := gfree hD hS hA
  obtain ⟨k_2, fs_2, hk_2⟩ := gC_of o_r7_1
  refine va_calli (va_runV (As := [.int x1, .int x2]) (rest := []) ⟨hx, hb, hml, hown, hts⟩ (m_X5_refusal l g s.heap.size ws r7_1 (x1) (x2) hG o_r7_1) (cwV 2 hts (gd_V kw_438 kw_1140 kw_1141 kw_398 kw_1139) rfl rfl rfl (by decide +kernel) ⟨Nat.le_of_ble_eq_true rfl, Nat.le_of_ble_eq_true rfl⟩) ⟨gblind, va_recv hK hP (ci := 5) (q0 := k_2) rfl hk_2, fun U hU hW9 => gmk hU hW9 hP hK hD hex hE hS hFc⟩ rfl rfl hl.1 rfl (lv_room (Nat.le_of_ble_eq_true rfl)) dX12_run_6 ⟨(show 0 + 0 ≤ PC ws + (0) from (by have e0 : (0 : Int32).toInt = 0 := (by decide); omega)), (show 0 + 0 ≤ PS ws + (0) from (by have e0 : (0 : Int32).toInt = 0 := (by decide); omega))⟩) hS (fun q _ h => hFc q h) hFc (fun r_3 u9 t9 H1 locs ht9 hvm9 hw9 hB9 hz9 hk9 hS => ?_)
  have hP : va_P (gD g) cl0 ws H1 := by rw [← ht9]; exact hB9.1
  obtain ⟨hw9, xp_4⟩ := hw9
  clear hB9 hz9 hk9 hvm9 ht9 hw9
  generalize H1 = H at hP hS ⊢
  refine lv_istore_n (lv' := [(3, .int r_3), (0, .ref h0), (1, .int x1), (2, .int x2)]) hx hb dX12_run_9 rfl hl (by decide) rfl (fun ls hl => ?_)
  refine lv_iload_n hx hb dX12_run_10 rfl (lv_at hl 0 rfl) ?_
  have J_24 : ∀ (v3_5 : Int32) (dc_24_1 : Nat) (ds_24_1 : Nat) (ws_6 : va_W) (H : Heap) (locs : List Loc) (ls : Array Slot), gE ws ws_6 → gF [(5, 2), (5, 3), (5, 4), (5, 5), (5, 8), (5, 9), (5, 11), (5, 12), (5, 13), (5, 14), (5, 15), (5, 16), (5, 17), (5, 18), (5, 19)] [(5, 1), (5, 2), (5, 4), (5, 8), (5, 9), (5, 10)] none ws ws_6 → Good g ws_6 → dc_24_1 + PC ws_6 ≤ PC ws + (0) → ds_24_1 + PS ws_6 ≤ PS ws + (0) → tpA g ws_6 h0 → va_P (gD g) cl0 ws_6 H → va_D A ws_6 → va_S A s.heap H locs → lv_has ls 4 [(0, .ref h0), (3, .int v3_5)] → W p l e (headSpec (wt yX12_run cX12_run 4 (some .int)) ({ frames := 7, cells := PC ws + (0), slots := PS ws + (0), locals := 157 })).room s m ([.ref h0, .int x1, .int x2] : List Value).toArray below meth c H locs (dc_24_1) (ds_24_1) (MQ below (va_Qi (fun (r : Int32) (u9 : va_W) => (True) ∧ (tpM u9 h0) ∧ (tpA g u9 h0)) (gQ2 g [(5, 2), (5, 3), (5, 4), (5, 5), (5, 7), (5, 8), (5, 9), (5, 11), (5, 12), (5, 13), (5, 14), (5, 15), (5, 16), (5, 17), (5, 18), (5, 19)] [(5, 1), (5, 2), (5, 4), (5, 8), (5, 9), (5, 10)] none A ws s.heap (0) (0)) A) ([.ref h0, .int x1, .int x2] : List Value).toArray s (PC ws + (0)) (PS ws + (0)) A) (F0 m 24 ls []) := by
    intro v3_5 dc_24_1 ds_24_1 ws_6 H locs ls  E_7 Fr_8 hG hc9 hs9 jx_24_0 hP hD hS hl
    have aa_9 := a_r3_1
    have o_h0 := E_7.1 _ _ o_h0
    refine lv_aload_n hx hb dX12_run_24 rfl (lv_at hl 0 rfl) ?_
    obtain ⟨fs9, hk_10, hq_10⟩ := ((gF.a (F' := [(5, 2), (5, 3), (5, 4), (5, 5), (5, 8), (5, 9), (5, 11), (5, 12), (5, 13), (5, 14), (5, 15), (5, 16), (5, 17), (5, 18), (5, 19)]) Fr_8 (fun _ h => h))) _ _ _ hk_1
    obtain ⟨r0_10, r1_10, r2_10, r3_10, n3_10, r4_10, r5_10, r6_10, r7_10, r8_10, r9_10, c10_10, c11_10, c12_10, c13_10, c14_10, c15_10, c16_10, c17_10, rfl, o_r0_10, o_r1_10, o_r2_10, a_r3_10, f4_10, o_r4_10, o_r5_10, o_r6_10, o_r7_10, o_r8_10, o_r9_10, f11_10, f12_10, f13_10, f14_10, f15_10, f16_10, f17_10, -⟩ := (hG.1 _ _ _ _ hk_10).hX12 rfl
    obtain rfl := fe_r (hq_10 7 (by decide))
    have o_r7_1 := o_r7_10
    refine va_get (D := gD g) (ci := 11) (v := .ref r7_1) (C := RX12) (T := TX12) (N := 18) hx hb hts inX12 hown hK hP k_1 hk_10 rfl 7 (by decide) (hts _ kw_286) (fun _ h9 => h9) rfl dX12_run_25 ?_
    refine lv_iconst (v := 0) hx hb dX12_run_28 (by decide) ?_
    obtain ⟨k_11, fs9, hk_11⟩ := gC_of o_r7_1
    obtain ⟨v0_11, r1_11, n1_11, r2_11, n2_11, c3_11, r4_11, n4_11, c5_11, r6_11, n6_11, c7_11, r8_11, n8_11, r9_11, n9_11, r10_11, n10_11, c11_11, v12_11, c13_11, c14_11, c15_11, l16_11, c17_11, c18_11, c19_11, rfl, o_v0_11, F_v0_11, a_r1_11, f3_11, a_r2_11, f5_11, a_r4_11, f7_11, a_r6_11, f9_11, a_r8_11, f11_11, a_r9_11, f13_11, a_r10_11, f15_11, o_v12_11, f17_11, f18_11, f19_11, f20_11, f21_11, f22_11, f23_11, f24_11, f25_11, f26_11, f27_11, f28_11, f29_11, f30_11, f31_11, -⟩ := (hG.1 _ _ _ _ hk_11).hX5 rfl
    have hV9 : okv ws_6 5 7 (.int 0) := okv_i
    refine va_put (D := gD g) (ci := 5) (v := .int 0) (ty := .int) (C := RX5) (T := TX5) (N := 20) hx hb hts inX5 tyX5 tyX5_ok nmX5 hown hK hP hD hS k_11 hk_11 rfl 7 (by decide) (hts _ kw_440) (fun _ h9 => h9) rfl (by decide +kernel) rfl rfl (Nat.le_of_ble_eq_true rfl) dX12_run_29 (fun H locs hP hD hS => ?_)
    have f_12 : 0 ≤ (0 : Int32).toInt := (by have e0 : (0 : Int32).toInt = 0 := (by decide); omega)
    have f_13 : (0 : Int32).toInt ≤ 8 := (by have e0 : (0 : Int32).toInt = 0 := (by decide); have q_f_12 := f_12; omega)
    have hi_14 : invX5 g ws_6 r7_1 [va_rf v0_11, .ref r1_11, .ref r2_11, .int c3_11, .ref r4_11, .int c5_11, .ref r6_11, .int 0, .ref r8_11, .ref r9_11, .ref r10_11, .int c11_11, va_rf v12_11, .int c13_11, .int c14_11, .int c15_11, .long l16_11, .int c17_11, .int c18_11, .int c19_11] := ⟨v0_11, r1_11, (n1_11), r2_11, (n2_11), (c3_11), r4_11, (n4_11), (c5_11), r6_11, (n6_11), (0), r8_11, (n8_11), r9_11, (n9_11), r10_11, (n10_11), (c11_11), v12_11, (c13_11), (c14_11), (c15_11), (l16_11), (c17_11), (c18_11), (c19_11), rfl, o_v0_11, F_v0_11, a_r1_11, f3_11, a_r2_11, f5_11, a_r4_11, f7_11, a_r6_11, f9_11, a_r8_11, f11_11, a_r9_11, f13_11, a_r10_11, f15_11, o_v12_11, f17_11, f18_11, f_12, f_13, f21_11, f22_11, f23_11, f24_11, f25_11, f26_11, f27_11, f28_11, f29_11, f30_11, f31_11, trivial⟩
    obtain ⟨ws_15, e_ws_15⟩ : ∃ z, z = ws_6.set k_11 (r7_1, .inr (5, [va_rf v0_11, .ref r1_11, .ref r2_11, .int c3_11, .ref r4_11, .int c5_11, .ref r6_11, .int 0, .ref r8_11, .ref r9_11, .ref r10_11, .int c11_11, va_rf v12_11, .int c13_11, .int c14_11, .int c15_11, .long l16_11, .int c17_11, .int c18_11, .int c19_11])) := ⟨_, rfl⟩
    have hP : va_P (gD g) cl0 ws_15 H := by rw [e_ws_15]; exact hP
    have hD : va_D A ws_15 := by rw [e_ws_15]; exact hD
    have E_16 : gE ws_6 ws_15 := gE_set e_ws_15 hk_11 (cw_o (fi := 7) (v := .int 0) rfl (by decide))
    have hG : Good g ws_15 := Good_set (fi := 7) (v := .int 0) e_ws_15 hk_11 E_16 rfl hV9 hG (ivX5 hi_14)
    have Fr_17 : gF [(5, 7)] [] (some r7_1) ws_6 ws_15 := gF_put (fi := 7) (v := .int 0) e_ws_15 hk_11 rfl (by decide)
    have pp_18 := Fr_17.pp
    have hkN := gset_self e_ws_15 hk_11
    have hk_10 := gset_ob e_ws_15 hk_11 hk_10 (by decide)
    have hk_11 := hkN
    have o_h0 := E_16.1 _ _ o_h0
    have o_r0_10 := E_16.1 _ _ o_r0_10
    have o_r1_10 := E_16.1 _ _ o_r1_10
    have o_r2_10 := E_16.1 _ _ o_r2_10
    have a_r3_10 := E_16.1 _ _ a_r3_10
    have o_r4_10 := E_16.1 _ _ o_r4_10
    have o_r5_10 := E_16.1 _ _ o_r5_10
    have o_r6_10 := E_16.1 _ _ o_r6_10
    have o_r8_10 := E_16.1 _ _ o_r8_10
    have o_r9_10 := E_16.1 _ _ o_r9_10
    have o_r7_1 := E_16.1 _ _ o_r7_1
    have o_v0_11 : ∀ b, v0_11 = some b → gC ws_15 b 9 := fun b h => E_16.1 _ _ (o_v0_11 b h)
    have F_v0_11 : ∀ b, v0_11 = some b → full ws_15 b := fun b h => (F_v0_11 b h).mo E_16
    have a_r1_11 := E_16.1 _ _ a_r1_11
    have a_r2_11 := E_16.1 _ _ a_r2_11
    have a_r4_11 := E_16.1 _ _ a_r4_11
    have a_r6_11 := E_16.1 _ _ a_r6_11
    have a_r8_11 := E_16.1 _ _ a_r8_11
    have a_r9_11 := E_16.1 _ _ a_r9_11
    have a_r10_11 := E_16.1 _ _ a_r10_11
    have o_v12_11 : ∀ b, v12_11 = some b → gC ws_15 b 7 := fun b h => E_16.1 _ _ (o_v12_11 b h)
    refine lv_iload_n hx hb dX12_run_32 rfl (lv_at hl 1 rfl) ?_
    refine W_led (fun hLd => ?_)
    have hcl : dc_24_1 + PC ws_15 ≤ PC ws + (0) := (by have e0 : (0 : Int32).toInt = 0 := (by decide); have q_f_12 := f_12; have q_f_13 := f_13; omega)
    have hsl : ds_24_1 + PS ws_15 ≤ PS ws + (0) := (by have e0 : (0 : Int32).toInt = 0 := (by decide); have q_f_12 := f_12; have q_f_13 := f_13; omega)
    refine W.widen (k := PC ws + (0)) (n := PS ws + (0)) (by omega) (by omega) ?_
    have tq_19 : tpM ws_15 h0 := tpM_mo ((gF.tr (gF.mo (F' := [(5, 2), (5, 3), (5, 4), (5, 5), (5, 7), (5, 8), (5, 9), (5, 11), (5, 12), (5, 13), (5, 14), (5, 15), (5, 16), (5, 17), (5, 18), (5, 19)]) (C' := [(5, 1), (5, 2), (5, 4), (5, 8), (5, 9), (5, 10)]) (S' := none) Fr_8 (by decide) (fun _ h => h) (Or.inr rfl)) (gF.mo (F' := [(5, 2), (5, 3), (5, 4), (5, 5), (5, 7), (5, 8), (5, 9), (5, 11), (5, 12), (5, 13), (5, 14), (5, 15), (5, 16), (5, 17), (5, 18), (5, 19)]) (C' := [(5, 1), (5, 2), (5, 4), (5, 8), (5, 9), (5, 10)]) (S' := none) Fr_17 (by decide) (fun _ h => absurd h List.not_mem_nil) (Or.inl rfl)))) (by decide) (by decide) (by decide) (by decide) (by decide) (by decide) (by decide) (by decide) (by decide) (by decide) (by decide) (by decide) tk0
    have tq_20 : tpA g ws_15 h0 := tpA_mo ((gF.mo (F' := [(5, 7)]) (C' := []) (S' := none) Fr_17 (fun _ h => h) (fun _ h => h) (Or.inl rfl))) (E_16) (by decide) (by decide) (by decide) jx_24_0
    exact W.iret (v := v3_5) hx hb hr (fun t9 ht9 hW9 => ⟨⟨_, ws_15, rfl, ⟨trivial, tq_19, tq_20⟩, ⟨(E_7.tr E_16), (gF.tr (gF.mo (F' := [(5, 2), (5, 3), (5, 4), (5, 5), (5, 7), (5, 8), (5, 9), (5, 11), (5, 12), (5, 13), (5, 14), (5, 15), (5, 16), (5, 17), (5, 18), (5, 19)]) (C' := [(5, 1), (5, 2), (5, 4), (5, 8), (5, 9), (5, 10)]) (S' := none) Fr_8 (by decide) (fun _ h => h) (Or.inr rfl)) (gF.mo (F' := [(5, 2), (5, 3), (5, 4), (5, 5), (5, 7), (5, 8), (5, 9), (5, 11), (5, 12), (5, 13), (5, 14), (5, 15), (5, 16), (5, 17), (5, 18), (5, 19)]) (C' := [(5, 1), (5, 2), (5, 4), (5, 8), (5, 9), (5, 10)]) (S' := none) Fr_17 (by decide) (fun _ h => absurd h List.not_mem_nil) (Or.inl rfl))), hG, by rw [ht9]; exact hP, hD, _, _, by rw [ht9]; exact hLd, hcl, hsl⟩⟩, hS.F ht9⟩) hS.2.2 dX12_run_33
  refine lv_if_ne (tgt := 24) hx hb dX12_run_11 (by decide) (fun c_21 => ?_) (fun c_21 => ?_)
  · exact J_24 (r_3) (0) (0) ws H locs ls (gE.rf) (gF.rf) hG (by have e0 : (0 : Int32).toInt = 0 := (by decide); omega) (by have e0 : (0 : Int32).toInt = 0 := (by decide); omega) tk1 hP hD hS (lv_sub hl [1, 0] rfl)
  · have qx9 := xp_4 (by have e0 : (0 : Int32).toInt = 0 := (by decide); have q_c_21 := i_eq c_21; have g_r_3 := i_rg r_3; omega)
    have hn8 := qx9.2
    obtain ⟨k_22, fs9, hk_22⟩ := gC_of o_r7_1
    obtain ⟨v0_22, r1_22, n1_22, r2_22, n2_22, c3_22, r4_22, n4_22, c5_22, r6_22, n6_22, c7_22, r8_22, n8_22, r9_22, n9_22, r10_22, n10_22, c11_22, v12_22, c13_22, c14_22, c15_22, l16_22, c17_22, c18_22, c19_22, rfl, o_v0_22, F_v0_22, a_r1_22, f3_22, a_r2_22, f5_22, a_r4_22, f7_22, a_r6_22, f9_22, a_r8_22, f11_22, a_r9_22, f13_22, a_r10_22, f15_22, o_v12_22, f17_22, f18_22, f19_22, f20_22, f21_22, f22_22, f23_22, f24_22, f25_22, f26_22, f27_22, f28_22, f29_22, f30_22, f31_22, -⟩ := (hG.1 _ _ _ _ hk_22).hX5 rfl
    obtain ⟨b_23, hn9⟩ := hn8 _ _ _ hk_22
    have hn9 := fe_qr hn9
    subst hn9
    have o_b_23 := o_v0_22 _ rfl
    have F_b_23 := F_v0_22 _ rfl
    have tq_24 : swU ws r7_1 := tpM_u hD hk_1 (m := r7_1) rfl hk_22 (u := b_23) rfl tk0
    have tq_25 : arP g ws r7_1 := tpA_u hD hk_1 (m := r7_1) rfl tk1
    refine lv_aload_n hx hb dX12_run_14 rfl (lv_at hl 1 rfl) ?_
    refine va_get (D := gD g) (ci := 11) (v := .ref r7_1) (C := RX12) (T := TX12) (N := 18) hx hb hts inX12 hown hK hP k_1 hk_1 rfl 7 (by decide) (hts _ kw_286) (fun _ h9 => h9) rfl dX12_run_15 ?_
    refine lv_iload_n hx hb dX12_run_18 rfl (lv_at hl 2 rfl) ?_
    refine lv_iload_n hx hb dX12_run_19 rfl (lv_at hl 3 rfl) ?_
    have hFc := gfree hD hS hA
    have pg_26 := ge_5_9 hD hk_22 rfl a_r9_22
    have pg_27 := ge_5_2 hD hk_22 rfl a_r2_22
    have pg_28 := ge_5_4 hD hk_22 rfl a_r4_22
    refine W_led (fun hL0 => ?_)
    refine va_calli (va_runV (As := [.int x1, .int x2]) (rest := []) ⟨hx, hb, hml, hown, hts⟩ (m_X5_play l g H ws r7_1 (x1) (x2) hG o_r7_1 (gN_of hD hk_22 (j := 0) rfl) qx9.1 tq_24 tq_25) (cwV 2 hts (gd_V kw_439 kw_1118 kw_1119 kw_398 kw_1117) rfl rfl rfl (by decide +kernel) ⟨Nat.le_of_ble_eq_true rfl, Nat.le_of_ble_eq_true rfl⟩) ⟨gblindH, va_recv hK hP (ci := 5) (q0 := k_22) rfl hk_22, fun U hU hW9 => gmkH hU hW9 hP hK hD hex hE hS hFc⟩ rfl rfl hl.1 rfl (lv_room (Nat.le_of_ble_eq_true rfl)) dX12_run_20 ⟨(show 0 + (PC ws + (0)) ≤ PC ws + (0) from (by have e0 : (0 : Int32).toInt = 0 := (by decide); omega)), (show 0 + (PS ws + (0)) ≤ PS ws + (0) from (by have e0 : (0 : Int32).toInt = 0 := (by decide); omega))⟩) hS (fun q _ h => hFc q h) hFc (fun r_29 ws_30 t9 H1 locs ht9 hvm9 hw9 hB9 hz9 hk9 hS => ?_)
    obtain ⟨E_31, Fr_32, hG, hP1, hD1, dc_33, ds_34, hLd, hdc_33, hds_34⟩ := hB9
    rw [ht9] at hLd
    refine W_tight (hL0.tr hLd).1 (hL0.tr hLd).2.1 ?_
    clear hL0 hLd
    have hP : va_P (gD g) cl0 ws_30 H1 := by rw [← ht9]; exact hP1
    have hD : va_D A ws_30 := hD1.weaken (fun _ _ _ h => hFc _ h)
    obtain ⟨hw9, xp_35, xp_36⟩ := hw9
    clear hP1 hD1 hz9 hk9 hvm9 ht9 hw9
    generalize H1 = H at hP hS ⊢
    have aa_37 := a_r3_1
    have aa_38 := a_r1_22
    have aa_39 := a_r2_22
    have aa_40 := a_r4_22
    have aa_41 := a_r6_22
    have aa_42 := a_r8_22
    have aa_43 := a_r9_22
    have aa_44 := a_r10_22
    have o_h0 := E_31.1 _ _ o_h0
    obtain ⟨fs9, hk_45, hq_45⟩ := ((gF.a (F' := [(5, 2), (5, 3), (5, 4), (5, 5), (5, 8), (5, 9), (5, 11), (5, 12), (5, 13), (5, 14), (5, 15), (5, 16), (5, 17), (5, 18), (5, 19)]) Fr_32 (fun _ h => h))) _ _ _ hk_1
    obtain ⟨r0_45, r1_45, r2_45, r3_45, n3_45, r4_45, r5_45, r6_45, r7_45, r8_45, r9_45, c10_45, c11_45, c12_45, c13_45, c14_45, c15_45, c16_45, c17_45, rfl, o_r0_45, o_r1_45, o_r2_45, a_r3_45, f4_45, o_r4_45, o_r5_45, o_r6_45, o_r7_45, o_r8_45, o_r9_45, f11_45, f12_45, f13_45, f14_45, f15_45, f16_45, f17_45, -⟩ := (hG.1 _ _ _ _ hk_45).hX12 rfl
    obtain rfl := fe_r (hq_45 7 (by decide))
    have o_r7_1 := o_r7_45
    have tq_46 : tpA g ws_30 h0 := ⟨_, _, _, hk_45, rfl, xp_36⟩
    refine lv_istore_n (lv' := [(3, .int r_29), (0, .ref h0), (1, .int x1), (2, .int x2)]) hx hb dX12_run_23 rfl hl (by decide) rfl (fun ls hl => ?_)
    exact J_24 (r_29) (0 + dc_33) (0 + ds_34) ws_30 H locs ls (E_31) (Fr_32) hG (by omega) (by omega) tq_46 hP hD hS (lv_sub hl [1, 0] rfl)
