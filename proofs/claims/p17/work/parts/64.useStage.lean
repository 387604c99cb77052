set_option maxHeartbeats 1000000 in
set_option maxRecDepth 100000 in
theorem m_X5_useStage (l : Launch) (g : Gm) (H0 : Heap) (ws : va_W) (h0 : Nat) (x1 : Int32) (hG : Good g ws) (o_h0 : gC ws h0 5) (nn_h0_0 : gN ws h0 0) (nn_h0_12 : gN ws h0 12) (tk0 : frP g ws h0) (tk1 : swU ws h0) (tk2 : swC ws h0) (tk3 : arP g ws h0) : Met l yX5_useStage (wt yX5_useStage cX5_useStage 3 none) ({ frames := 4, cells := PC ws + (0), slots := PS ws + (0), locals := 92 }) (va_Pc [.ref h0, .int x1] (st_H g H0 ws)) (va_Qv (fun (u9 : va_W) => (True) ∧ (gN u9 h0 0) ∧ (gN u9 h0 12) ∧ (frP g u9 h0) ∧ (swU u9 h0) ∧ (swC u9 h0) ∧ (arP g u9 h0)) (gQ2 g [(5, 2), (5, 3), (5, 4), (5, 5), (5, 11), (5, 12), (5, 13), (5, 14), (5, 15), (5, 17), (5, 19)] [(5, 1), (5, 2), (5, 4), (5, 8), (5, 9), (5, 10)] none (va_A ws H0.size) ws H0 (0) (0)) (va_A ws H0.size)) (PC ws + (0)) (PS ws + (0)) (va_A ws H0.size) := by
  refine Met.ofW (cc := cX5_useStage) (maxL := 3) (ret := none) (by decide) rfl ?_
  intro p e s m args below meth c s₁ B hml hv
  obtain ⟨rfl, hH0, hsz, hP, hK, hD0, hex, hE⟩ := hv
  have hx := B.exec
  have hb := B.bytes
  have hr := B.returns
  have hts0 := atoms_spec (ws := wt yX5_useStage cX5_useStage 3 none) B.pre
  have hts : ∀ w ∈ tb, w.before _ s = true := fun w h => hts0 w (List.mem_cons_of_mem _ h)
  have hown : s.vm.findClass RX5 = some m.cls := findClass_of_methodNamed B.named
  subst hH0
  have hD := hD0.self (sz := s.heap.size)
  generalize hAe : va_A ws s.heap.size = A at hD hE ⊢
  have hA : ∀ q : Nat, s.heap.size ≤ q → A q := fun q h => by rw [← hAe]; exact Or.inr h
  have hS : va_S A s.heap s.heap [] := va_S.rf
  have hl := lv_entry ([.ref h0, .int x1]) (n := 3) (Nat.le_of_ble_eq_true rfl)
  rw [lg_entry_eq]
  generalize (lg_sl ([.ref h0, .int x1]) ++ List.replicate (3 - (lg_sl ([.ref h0, .int x1])).length) Slot.unset).toArray = ls at hl ⊢
  have hl : lv_has ls 3 [(0, .ref h0), (1, .int x1)] := hl
  obtain ⟨k_1, fs9, hk_1⟩ := gC_of o_h0
  obtain ⟨v0_1, r1_1, n1_1, r2_1, n2_1, c3_1, r4_1, n4_1, c5_1, r6_1, n6_1, c7_1, r8_1, n8_1, r9_1, n9_1, r10_1, n10_1, c11_1, v12_1, c13_1, c14_1, c15_1, l16_1, c17_1, c18_1, c19_1, rfl, o_v0_1, F_v0_1, a_r1_1, f3_1, a_r2_1, f5_1, a_r4_1, f7_1, a_r6_1, f9_1, a_r8_1, f11_1, a_r9_1, f13_1, a_r10_1, f15_1, o_v12_1, f17_1, f18_1, f19_1, f20_1, f21_1, f22_1, f23_1, f24_1, f25_1, f26_1, f27_1, f28_1, f29_1, f30_1, f31_1, -⟩ := (hG.1 _ _ _ _ hk_1).hX5 rfl
  obtain ⟨b_2, hn9⟩ := nn_h0_0 _ _ _ hk_1
  have hn9 := fe_qr hn9
  subst hn9
  have o_b_2 := o_v0_1 _ rfl
  have F_b_2 := F_v0_1 _ rfl
  obtain ⟨b_3, hn9⟩ := nn_h0_12 _ _ _ hk_1
  have hn9 := fe_qr hn9
  subst hn9
  have o_b_3 := o_v12_1 _ rfl
  refine lv_aload_n hx hb dX5_useStage_0 rfl (lv_at hl 0 rfl) ?_
  refine va_get (D := gD g) (ci := 5) (v := .ref b_3) (C := RX5) (T := TX5) (N := 20) hx hb hts inX5 hown hK hP k_1 hk_1 rfl 12 (by decide) (hts _ kw_1030) (fun _ h9 => h9) rfl dX5_useStage_1 ?_
  refine lv_aload_n hx hb dX5_useStage_4 rfl (lv_at hl 0 rfl) ?_
  refine va_get (D := gD g) (ci := 5) (v := .int c13_1) (C := RX5) (T := TX5) (N := 20) hx hb hts inX5 hown hK hP k_1 hk_1 rfl 13 (by decide) (hts _ kw_1021) (fun _ h9 => h9) rfl dX5_useStage_5 ?_
  have hFc := gfree hD hS hA
  obtain ⟨k_4, fs_4, hk_4⟩ := gC_of o_b_3
  refine va_calll (va_runV (As := [.int c13_1]) (rest := []) ⟨hx, hb, hml, hown, hts⟩ (m_X8_argAt l g s.heap.size ws b_3 (c13_1) hG o_b_3) (cwV 1 hts (gd_V kw_1104 kw_1476 kw_1477 kw_782 kw_1475) rfl rfl rfl (by decide +kernel) ⟨Nat.le_of_ble_eq_true rfl, Nat.le_of_ble_eq_true rfl⟩) ⟨gblind, va_recv hK hP (ci := 7) (q0 := k_4) rfl hk_4, fun U hU hW9 => gmk hU hW9 hP hK hD hex hE hS hFc⟩ rfl rfl hl.1 rfl (lv_room (Nat.le_of_ble_eq_true rfl)) dX5_useStage_8 ⟨(show 0 + 0 ≤ PC ws + (0) from (by have e0 : (0 : Int32).toInt = 0 := (by decide); omega)), (show 0 + 0 ≤ PS ws + (0) from (by have e0 : (0 : Int32).toInt = 0 := (by decide); omega))⟩) hS (fun q _ h => hFc q h) hFc (fun r_5 u9 t9 H1 locs ht9 hvm9 hw9 hB9 hz9 hk9 hS => ?_)
  have hP : va_P (gD g) cl0 ws H1 := by rw [← ht9]; exact hB9.1
  clear hB9 hz9 hk9 hvm9 ht9 hw9
  generalize H1 = H at hP hS ⊢
  obtain ⟨z_6, ez_6⟩ : ∃ y : Int32, (r_5 : Int64).toInt32 = y := ⟨_, rfl⟩
  refine lv_l2i (v := z_6) hx hb dX5_useStage_11 ez_6 ?_
  refine lv_istore_n (lv' := [(2, .int z_6), (0, .ref h0), (1, .int x1)]) hx hb dX5_useStage_12 rfl hl (by decide) rfl (fun ls hl => ?_)
  refine lv_iload_n hx hb dX5_useStage_13 rfl (lv_at hl 2 rfl) ?_
  have J_218 : ∀ (dc_218_1 : Nat) (ds_218_1 : Nat) (ws_7 : va_W) (H : Heap) (locs : List Loc) (ls : Array Slot), gE ws ws_7 → gF [(5, 2), (5, 3), (5, 4), (5, 5), (5, 11), (5, 12), (5, 13), (5, 14), (5, 15), (5, 17), (5, 19)] [(5, 1), (5, 2), (5, 4), (5, 8), (5, 9), (5, 10)] none ws ws_7 → Good g ws_7 → dc_218_1 + PC ws_7 ≤ PC ws + (0) → ds_218_1 + PS ws_7 ≤ PS ws + (0) → frP g ws_7 h0 → swU ws_7 h0 → swC ws_7 h0 → arP g ws_7 h0 → gN ws_7 h0 12 → va_P (gD g) cl0 ws_7 H → va_D A ws_7 → va_S A s.heap H locs → lv_has ls 3 [] → W p l e (headSpec (wt yX5_useStage cX5_useStage 3 none) ({ frames := 4, cells := PC ws + (0), slots := PS ws + (0), locals := 92 })).room s m ([.ref h0, .int x1] : List Value).toArray below meth c H locs (dc_218_1) (ds_218_1) (MQ below (va_Qv (fun (u9 : va_W) => (True) ∧ (gN u9 h0 0) ∧ (gN u9 h0 12) ∧ (frP g u9 h0) ∧ (swU u9 h0) ∧ (swC u9 h0) ∧ (arP g u9 h0)) (gQ2 g [(5, 2), (5, 3), (5, 4), (5, 5), (5, 11), (5, 12), (5, 13), (5, 14), (5, 15), (5, 17), (5, 19)] [(5, 1), (5, 2), (5, 4), (5, 8), (5, 9), (5, 10)] none A ws s.heap (0) (0)) A) ([.ref h0, .int x1] : List Value).toArray s (PC ws + (0)) (PS ws + (0)) A) (F0 m 218 ls []) := by
    intro dc_218_1 ds_218_1 ws_7 H locs ls  E_8 Fr_9 hG hc9 hs9 jx_218_0 jx_218_1 jx_218_2 jx_218_3 jx_218_4 hP hD hS hl
    have aa_10 := a_r1_1
    have aa_11 := a_r2_1
    have aa_12 := a_r4_1
    have aa_13 := a_r6_1
    have aa_14 := a_r8_1
    have aa_15 := a_r9_1
    have aa_16 := a_r10_1
    have o_h0 := E_8.1 _ _ o_h0
    refine W_led (fun hLd => ?_)
    have hcl : dc_218_1 + PC ws_7 ≤ PC ws + (0) := (by omega)
    have hsl : ds_218_1 + PS ws_7 ≤ PS ws + (0) := (by omega)
    refine W.widen (k := PC ws + (0)) (n := PS ws + (0)) (by omega) (by omega) ?_
    obtain ⟨fs9, hk_17, hq_17⟩ := ((gF.a (F' := [(5, 2), (5, 3), (5, 4), (5, 5), (5, 11), (5, 12), (5, 13), (5, 14), (5, 15), (5, 17), (5, 19)]) Fr_9 (fun _ h => h))) _ _ _ hk_1
    obtain ⟨v0_17, r1_17, n1_17, r2_17, n2_17, c3_17, r4_17, n4_17, c5_17, r6_17, n6_17, c7_17, r8_17, n8_17, r9_17, n9_17, r10_17, n10_17, c11_17, v12_17, c13_17, c14_17, c15_17, l16_17, c17_17, c18_17, c19_17, rfl, o_v0_17, F_v0_17, a_r1_17, f3_17, a_r2_17, f5_17, a_r4_17, f7_17, a_r6_17, f9_17, a_r8_17, f11_17, a_r9_17, f13_17, a_r10_17, f15_17, o_v12_17, f17_17, f18_17, f19_17, f20_17, f21_17, f22_17, f23_17, f24_17, f25_17, f26_17, f27_17, f28_17, f29_17, f30_17, f31_17, -⟩ := (hG.1 _ _ _ _ hk_17).hX5 rfl
    have hn9 := fe_qr (hq_17 0 (by decide))
    subst hn9
    have o_b_2 := o_v0_17 _ rfl
    have F_b_2 := F_v0_17 _ rfl
    obtain ⟨b_18, hn9⟩ := jx_218_4 _ _ _ hk_17
    have hn9 := fe_qr hn9
    subst hn9
    have o_b_18 := o_v12_17 _ rfl
    exact W.vret hx hb hr (fun t9 ht9 hW9 => ⟨⟨ws_7, rfl, ⟨trivial, (gN_of hD hk_17 (j := 0) rfl), (gN_of hD hk_17 (j := 12) rfl), jx_218_0, jx_218_1, jx_218_2, jx_218_3⟩, ⟨E_8, Fr_9, hG, by rw [ht9]; exact hP, hD, _, _, by rw [ht9]; exact hLd, hcl, hsl⟩⟩, hS.F ht9⟩) hS.2.2 dX5_useStage_218
  have K_14_198 : W p l e (headSpec (wt yX5_useStage cX5_useStage 3 none) ({ frames := 4, cells := PC ws + (0), slots := PS ws + (0), locals := 92 })).room s m ([.ref h0, .int x1] : List Value).toArray below meth c H locs (0) (0) (MQ below (va_Qv (fun (u9 : va_W) => (True) ∧ (gN u9 h0 0) ∧ (gN u9 h0 12) ∧ (frP g u9 h0) ∧ (swU u9 h0) ∧ (swC u9 h0) ∧ (arP g u9 h0)) (gQ2 g [(5, 2), (5, 3), (5, 4), (5, 5), (5, 11), (5, 12), (5, 13), (5, 14), (5, 15), (5, 17), (5, 19)] [(5, 1), (5, 2), (5, 4), (5, 8), (5, 9), (5, 10)] none A ws s.heap (0) (0)) A) ([.ref h0, .int x1] : List Value).toArray s (PC ws + (0)) (PS ws + (0)) A) (F0 m 198 ls []) := by
    refine lv_aload_n hx hb dX5_useStage_198 rfl (lv_at hl 1 rfl) ?_
    refine lv_dup hx hb dX5_useStage_199 rfl ?_
    refine va_get (D := gD g) (ci := 5) (v := .int c19_1) (C := RX5) (T := TX5) (N := 20) hx hb hts inX5 hown hK hP k_1 hk_1 rfl 19 (by decide) (hts _ kw_1045) (fun _ h9 => h9) rfl dX5_useStage_200 ?_
    refine lv_iconst (v := 1) hx hb dX5_useStage_203 (by decide) ?_
    refine lv_iadd hx hb dX5_useStage_204 ?_
    refine lv_topi (fun z_19 ez_19 => ?_)
    have hV9 : okv ws 5 19 (.int z_19) := okv_i
    refine va_put (D := gD g) (ci := 5) (v := .int z_19) (ty := .int) (C := RX5) (T := TX5) (N := 20) hx hb hts inX5 tyX5 tyX5_ok nmX5 hown hK hP hD hS k_1 hk_1 rfl 19 (by decide) (hts _ kw_1045) (fun _ h9 => h9) rfl (by decide +kernel) rfl rfl (Nat.le_of_ble_eq_true rfl) dX5_useStage_205 (fun H locs hP hD hS => ?_)
    have hi_20 : invX5 g ws h0 [.ref b_2, .ref r1_1, .ref r2_1, .int c3_1, .ref r4_1, .int c5_1, .ref r6_1, .int c7_1, .ref r8_1, .ref r9_1, .ref r10_1, .int c11_1, .ref b_3, .int c13_1, .int c14_1, .int c15_1, .long l16_1, .int c17_1, .int c18_1, .int z_19] := ⟨(some b_2), r1_1, (n1_1), r2_1, (n2_1), (c3_1), r4_1, (n4_1), (c5_1), r6_1, (n6_1), (c7_1), r8_1, (n8_1), r9_1, (n9_1), r10_1, (n10_1), (c11_1), (some b_3), (c13_1), (c14_1), (c15_1), (l16_1), (c17_1), (c18_1), (z_19), rfl, (fun b h9 => by cases h9; exact o_b_2), (fun b h9 => by cases h9; exact F_b_2), a_r1_1, f3_1, a_r2_1, f5_1, a_r4_1, f7_1, a_r6_1, f9_1, a_r8_1, f11_1, a_r9_1, f13_1, a_r10_1, f15_1, (fun b h9 => by cases h9; exact o_b_3), f17_1, f18_1, f19_1, f20_1, f21_1, f22_1, f23_1, f24_1, f25_1, f26_1, f27_1, f28_1, f29_1, f30_1, f31_1, trivial⟩
    obtain ⟨ws_21, e_ws_21⟩ : ∃ z, z = ws.set k_1 (h0, .inr (5, [.ref b_2, .ref r1_1, .ref r2_1, .int c3_1, .ref r4_1, .int c5_1, .ref r6_1, .int c7_1, .ref r8_1, .ref r9_1, .ref r10_1, .int c11_1, .ref b_3, .int c13_1, .int c14_1, .int c15_1, .long l16_1, .int c17_1, .int c18_1, .int z_19])) := ⟨_, rfl⟩
    have hP : va_P (gD g) cl0 ws_21 H := by rw [e_ws_21]; exact hP
    have hD : va_D A ws_21 := by rw [e_ws_21]; exact hD
    have E_22 : gE ws ws_21 := gE_set e_ws_21 hk_1 (cw_o (fi := 19) (v := .int z_19) rfl (by decide))
    have hG : Good g ws_21 := Good_set (fi := 19) (v := .int z_19) e_ws_21 hk_1 E_22 rfl hV9 hG (ivX5 hi_20)
    have Fr_23 : gF [(5, 19)] [] (some h0) ws ws_21 := gF_put (fi := 19) (v := .int z_19) e_ws_21 hk_1 rfl (by decide)
    have pp_24 := Fr_23.pp
    have hkN := gset_self e_ws_21 hk_1
    have hk_1 := hkN
    have o_h0 := E_22.1 _ _ o_h0
    have a_r1_1 := E_22.1 _ _ a_r1_1
    have a_r2_1 := E_22.1 _ _ a_r2_1
    have a_r4_1 := E_22.1 _ _ a_r4_1
    have a_r6_1 := E_22.1 _ _ a_r6_1
    have a_r8_1 := E_22.1 _ _ a_r8_1
    have a_r9_1 := E_22.1 _ _ a_r9_1
    have a_r10_1 := E_22.1 _ _ a_r10_1
    have o_b_2 := E_22.1 _ _ o_b_2
    have F_b_2 := F_b_2.mo E_22
    have o_b_3 := E_22.1 _ _ o_b_3
    refine lv_aload_n hx hb dX5_useStage_208 rfl (lv_at hl 1 rfl) ?_
    refine lv_dup hx hb dX5_useStage_209 rfl ?_
    refine va_get (D := gD g) (ci := 5) (v := .int c13_1) (C := RX5) (T := TX5) (N := 20) hx hb hts inX5 hown hK hP k_1 hk_1 rfl 13 (by decide) (hts _ kw_1021) (fun _ h9 => h9) rfl dX5_useStage_210 ?_
    refine lv_iconst (v := 1) hx hb dX5_useStage_213 (by decide) ?_
    refine lv_iadd hx hb dX5_useStage_214 ?_
    refine lv_topi (fun z_25 ez_25 => ?_)
    have hV9 : okv ws_21 5 13 (.int z_25) := okv_i
    refine va_put (D := gD g) (ci := 5) (v := .int z_25) (ty := .int) (C := RX5) (T := TX5) (N := 20) hx hb hts inX5 tyX5 tyX5_ok nmX5 hown hK hP hD hS k_1 hk_1 rfl 13 (by decide) (hts _ kw_1021) (fun _ h9 => h9) rfl (by decide +kernel) rfl rfl (Nat.le_of_ble_eq_true rfl) dX5_useStage_215 (fun H locs hP hD hS => ?_)
    have hi_26 : invX5 g ws_21 h0 [.ref b_2, .ref r1_1, .ref r2_1, .int c3_1, .ref r4_1, .int c5_1, .ref r6_1, .int c7_1, .ref r8_1, .ref r9_1, .ref r10_1, .int c11_1, .ref b_3, .int z_25, .int c14_1, .int c15_1, .long l16_1, .int c17_1, .int c18_1, .int z_19] := ⟨(some b_2), r1_1, (n1_1), r2_1, (n2_1), (c3_1), r4_1, (n4_1), (c5_1), r6_1, (n6_1), (c7_1), r8_1, (n8_1), r9_1, (n9_1), r10_1, (n10_1), (c11_1), (some b_3), (z_25), (c14_1), (c15_1), (l16_1), (c17_1), (c18_1), (z_19), rfl, (fun b h9 => by cases h9; exact o_b_2), (fun b h9 => by cases h9; exact F_b_2), a_r1_1, f3_1, a_r2_1, f5_1, a_r4_1, f7_1, a_r6_1, f9_1, a_r8_1, f11_1, a_r9_1, f13_1, a_r10_1, f15_1, (fun b h9 => by cases h9; exact o_b_3), f17_1, f18_1, f19_1, f20_1, f21_1, f22_1, f23_1, f24_1, f25_1, f26_1, f27_1, f28_1, f29_1, f30_1, f31_1, trivial⟩
    obtain ⟨ws_27, e_ws_27⟩ : ∃ z, z = ws_21.set k_1 (h0, .inr (5, [.ref b_2, .ref r1_1, .ref r2_1, .int c3_1, .ref r4_1, .int c5_1, .ref r6_1, .int c7_1, .ref r8_1, .ref r9_1, .ref r10_1, .int c11_1, .ref b_3, .int z_25, .int c14_1, .int c15_1, .long l16_1, .int c17_1, .int c18_1, .int z_19])) := ⟨_, rfl⟩
    have hP : va_P (gD g) cl0 ws_27 H := by rw [e_ws_27]; exact hP
    have hD : va_D A ws_27 := by rw [e_ws_27]; exact hD
    have E_28 : gE ws_21 ws_27 := gE_set e_ws_27 hk_1 (cw_o (fi := 13) (v := .int z_25) rfl (by decide))
    have hG : Good g ws_27 := Good_set (fi := 13) (v := .int z_25) e_ws_27 hk_1 E_28 rfl hV9 hG (ivX5 hi_26)
    have Fr_29 : gF [(5, 13)] [] (some h0) ws_21 ws_27 := gF_put (fi := 13) (v := .int z_25) e_ws_27 hk_1 rfl (by decide)
    have pp_30 := Fr_29.pp
    have hkN := gset_self e_ws_27 hk_1
    have hk_1 := hkN
    have o_h0 := E_28.1 _ _ o_h0
    have a_r1_1 := E_28.1 _ _ a_r1_1
    have a_r2_1 := E_28.1 _ _ a_r2_1
    have a_r4_1 := E_28.1 _ _ a_r4_1
    have a_r6_1 := E_28.1 _ _ a_r6_1
    have a_r8_1 := E_28.1 _ _ a_r8_1
    have a_r9_1 := E_28.1 _ _ a_r9_1
    have a_r10_1 := E_28.1 _ _ a_r10_1
    have o_b_2 := E_28.1 _ _ o_b_2
    have F_b_2 := F_b_2.mo E_28
    have o_b_3 := E_28.1 _ _ o_b_3
    have tq_31 : frP g ws_27 h0 := frP_mo ((gF.tr (gF.mo (F' := [(5, 13), (5, 19)]) (C' := []) (S' := none) Fr_23 (by decide) (fun _ h => h) (Or.inl rfl)) (gF.mo (F' := [(5, 13), (5, 19)]) (C' := []) (S' := none) Fr_29 (by decide) (fun _ h => h) (Or.inl rfl)))) (by decide) (by decide) (by decide) (by decide) (by decide) tk0
    have tq_32 : swU ws_27 h0 := swU_mo ((gF.tr (gF.mo (F' := [(5, 13), (5, 19)]) (C' := []) (S' := none) Fr_23 (by decide) (fun _ h => h) (Or.inl rfl)) (gF.mo (F' := [(5, 13), (5, 19)]) (C' := []) (S' := none) Fr_29 (by decide) (fun _ h => h) (Or.inl rfl)))) (by decide) (by decide) (by decide) (by decide) (by decide) (by decide) (by decide) (by decide) (by decide) (by decide) (by decide) tk1
    have tq_33 : swC ws_27 h0 := swC_mo ((gF.tr (gF.mo (F' := [(5, 13), (5, 19)]) (C' := []) (S' := none) Fr_23 (by decide) (fun _ h => h) (Or.inl rfl)) (gF.mo (F' := [(5, 13), (5, 19)]) (C' := []) (S' := none) Fr_29 (by decide) (fun _ h => h) (Or.inl rfl)))) (by decide) (by decide) (by decide) (by decide) (by decide) (by decide) (by decide) (by decide) (by decide) tk2
    have tq_34 : arP g ws_27 h0 := arP_mo ((gF.tr (gF.mo (F' := [(5, 13), (5, 19)]) (C' := []) (S' := none) Fr_23 (by decide) (fun _ h => h) (Or.inl rfl)) (gF.mo (F' := [(5, 13), (5, 19)]) (C' := []) (S' := none) Fr_29 (by decide) (fun _ h => h) (Or.inl rfl)))) ((E_22.tr E_28)) (by decide) (by decide) tk3
    exact J_218 (0) (0) ws_27 H locs ls ((E_22.tr E_28)) ((gF.tr (gF.mo (F' := [(5, 2), (5, 3), (5, 4), (5, 5), (5, 11), (5, 12), (5, 13), (5, 14), (5, 15), (5, 17), (5, 19)]) (C' := [(5, 1), (5, 2), (5, 4), (5, 8), (5, 9), (5, 10)]) (S' := none) Fr_23 (by decide) (fun _ h => absurd h List.not_mem_nil) (Or.inl rfl)) (gF.mo (F' := [(5, 2), (5, 3), (5, 4), (5, 5), (5, 11), (5, 12), (5, 13), (5, 14), (5, 15), (5, 17), (5, 19)]) (C' := [(5, 1), (5, 2), (5, 4), (5, 8), (5, 9), (5, 10)]) (S' := none) Fr_29 (by decide) (fun _ h => absurd h List.not_mem_nil) (Or.inl rfl)))) hG (by have e0 : (0 : Int32).toInt = 0 := (by decide); omega) (by have e0 : (0 : Int32).toInt = 0 := (by decide); omega) tq_31 tq_32 tq_33 tq_34 (gN_of hD hk_1 (j := 12) rfl) hP hD hS (lv_sub hl [] rfl)
  have K_14_190 : W p l e (headSpec (wt yX5_useStage cX5_useStage 3 none) ({ frames := 4, cells := PC ws + (0), slots := PS ws + (0), locals := 92 })).room s m ([.ref h0, .int x1] : List Value).toArray below meth c H locs (0) (0) (MQ below (va_Qv (fun (u9 : va_W) => (True) ∧ (gN u9 h0 0) ∧ (gN u9 h0 12) ∧ (frP g u9 h0) ∧ (swU u9 h0) ∧ (swC u9 h0) ∧ (arP g u9 h0)) (gQ2 g [(5, 2), (5, 3), (5, 4), (5, 5), (5, 11), (5, 12), (5, 13), (5, 14), (5, 15), (5, 17), (5, 19)] [(5, 1), (5, 2), (5, 4), (5, 8), (5, 9), (5, 10)] none A ws s.heap (0) (0)) A) ([.ref h0, .int x1] : List Value).toArray s (PC ws + (0)) (PS ws + (0)) A) (F0 m 190 ls []) := by
    refine lv_aload_n hx hb dX5_useStage_190 rfl (lv_at hl 1 rfl) ?_
    refine lv_iload_n hx hb dX5_useStage_191 rfl (lv_at hl 2 rfl) ?_
    have hFc := gfree hD hS hA
    refine va_callv (va_runV (As := [.int x1]) (rest := []) ⟨hx, hb, hml, hown, hts⟩ (m_X5_useElement l g H.size ws h0 (x1) hG o_h0 (gN_of hD hk_1 (j := 0) rfl) (gN_of hD hk_1 (j := 12) rfl) tk0 tk1 tk2 tk3) (cwV 1 hts (gd_V kw_1204 kw_1192 kw_1193 kw_398 kw_1191) rfl rfl rfl (by decide +kernel) ⟨Nat.le_of_ble_eq_true rfl, Nat.le_of_ble_eq_true rfl⟩) ⟨gblind, va_recv hK hP (ci := 5) (q0 := k_1) rfl hk_1, fun U hU hW9 => gmk hU hW9 hP hK hD hex hE hS hFc⟩ rfl rfl hl.1 rfl (lv_room (Nat.le_of_ble_eq_true rfl)) dX5_useStage_192 ⟨(show 0 + 0 ≤ PC ws + (0) from (by have e0 : (0 : Int32).toInt = 0 := (by decide); omega)), (show 0 + 0 ≤ PS ws + (0) from (by have e0 : (0 : Int32).toInt = 0 := (by decide); omega))⟩) hS (fun q _ h => hFc q h) hFc (fun  ws_35 t9 H1 locs ht9 hvm9 hw9 hB9 hz9 hk9 hS => ?_)
    obtain ⟨E_36, Fr_37, hG, hP1, hD1⟩ := hB9
    have hP : va_P (gD g) cl0 ws_35 H1 := by rw [← ht9]; exact hP1
    have hD : va_D A ws_35 := hD1.weaken (fun _ _ _ h => hFc _ h)
    obtain ⟨hw9, xp_40, xp_41, xp_42, xp_43, xp_44, xp_45⟩ := hw9
    clear hP1 hD1 hz9 hk9 hvm9 ht9 hw9
    generalize H1 = H at hP hS ⊢
    have aa_46 := a_r1_1
    have aa_47 := a_r2_1
    have aa_48 := a_r4_1
    have aa_49 := a_r6_1
    have aa_50 := a_r8_1
    have aa_51 := a_r9_1
    have aa_52 := a_r10_1
    have o_h0 := E_36.1 _ _ o_h0
    have pp_53 := Fr_37.pp
    obtain ⟨fs9, hk_54, hq_54⟩ := ((gF.a (F' := [(5, 11), (5, 12), (5, 13), (5, 14), (5, 15), (5, 17), (5, 19)]) Fr_37 (fun _ h => h))) _ _ _ hk_1
    obtain ⟨v0_54, r1_54, n1_54, r2_54, n2_54, c3_54, r4_54, n4_54, c5_54, r6_54, n6_54, c7_54, r8_54, n8_54, r9_54, n9_54, r10_54, n10_54, c11_54, v12_54, c13_54, c14_54, c15_54, l16_54, c17_54, c18_54, c19_54, rfl, o_v0_54, F_v0_54, a_r1_54, f3_54, a_r2_54, f5_54, a_r4_54, f7_54, a_r6_54, f9_54, a_r8_54, f11_54, a_r9_54, f13_54, a_r10_54, f15_54, o_v12_54, f17_54, f18_54, f19_54, f20_54, f21_54, f22_54, f23_54, f24_54, f25_54, f26_54, f27_54, f28_54, f29_54, f30_54, f31_54, -⟩ := (hG.1 _ _ _ _ hk_54).hX5 rfl
    have hn9 := fe_qr (hq_54 0 (by decide))
    subst hn9
    have o_b_2 := o_v0_54 _ rfl
    have F_b_2 := F_v0_54 _ rfl
    obtain ⟨b_55, hn9⟩ := xp_41 _ _ _ hk_54
    have hn9 := fe_qr hn9
    subst hn9
    have o_b_55 := o_v12_54 _ rfl
    refine lv_goto (tgt := 218) hx hb dX5_useStage_195 (by decide) ?_
    exact J_218 (0) (0) ws_35 H locs ls (E_36) ((gF.mo (F' := [(5, 2), (5, 3), (5, 4), (5, 5), (5, 11), (5, 12), (5, 13), (5, 14), (5, 15), (5, 17), (5, 19)]) (C' := [(5, 1), (5, 2), (5, 4), (5, 8), (5, 9), (5, 10)]) (S' := none) Fr_37 (by decide) (by decide) (Or.inr rfl))) hG (by have e0 : (0 : Int32).toInt = 0 := (by decide); omega) (by have e0 : (0 : Int32).toInt = 0 := (by decide); omega) xp_42 xp_43 xp_44 xp_45 (gN_of hD hk_54 (j := 12) rfl) hP hD hS (lv_sub hl [] rfl)
  have K_14_88 : W p l e (headSpec (wt yX5_useStage cX5_useStage 3 none) ({ frames := 4, cells := PC ws + (0), slots := PS ws + (0), locals := 92 })).room s m ([.ref h0, .int x1] : List Value).toArray below meth c H locs (0) (0) (MQ below (va_Qv (fun (u9 : va_W) => (True) ∧ (gN u9 h0 0) ∧ (gN u9 h0 12) ∧ (frP g u9 h0) ∧ (swU u9 h0) ∧ (swC u9 h0) ∧ (arP g u9 h0)) (gQ2 g [(5, 2), (5, 3), (5, 4), (5, 5), (5, 11), (5, 12), (5, 13), (5, 14), (5, 15), (5, 17), (5, 19)] [(5, 1), (5, 2), (5, 4), (5, 8), (5, 9), (5, 10)] none A ws s.heap (0) (0)) A) ([.ref h0, .int x1] : List Value).toArray s (PC ws + (0)) (PS ws + (0)) A) (F0 m 88 ls []) := by
    refine lv_aload_n hx hb dX5_useStage_88 rfl (lv_at hl 1 rfl) ?_
    refine lv_aload_n hx hb dX5_useStage_89 rfl (lv_at hl 1 rfl) ?_
    refine va_get (D := gD g) (ci := 5) (v := .ref b_2) (C := RX5) (T := TX5) (N := 20) hx hb hts inX5 hown hK hP k_1 hk_1 rfl 0 (by decide) (hts _ kw_1027) (fun _ h9 => h9) rfl dX5_useStage_90 ?_
    refine lv_iload_n hx hb dX5_useStage_93 rfl (lv_at hl 0 rfl) ?_
    have hFc := gfree hD hS hA
    obtain ⟨k_56, fs_56, hk_56⟩ := gC_of o_b_2
    refine va_calli (va_runV (As := [.int z_6]) (rest := [.ref h0]) ⟨hx, hb, hml, hown, hts⟩ (m_X10_kindOfField l g H.size ws b_2 (z_6) hG o_b_2) (cwV 1 hts (gd_V kw_1197 kw_62 kw_63 kw_34 kw_61) rfl rfl rfl (by decide +kernel) ⟨Nat.le_of_ble_eq_true rfl, Nat.le_of_ble_eq_true rfl⟩) ⟨gblind, va_recv hK hP (ci := 9) (q0 := k_56) rfl hk_56, fun U hU hW9 => gmk hU hW9 hP hK hD hex hE hS hFc⟩ rfl rfl hl.1 rfl (lv_room (Nat.le_of_ble_eq_true rfl)) dX5_useStage_94 ⟨(show 0 + 0 ≤ PC ws + (0) from (by have e0 : (0 : Int32).toInt = 0 := (by decide); omega)), (show 0 + 0 ≤ PS ws + (0) from (by have e0 : (0 : Int32).toInt = 0 := (by decide); omega))⟩) hS (fun q _ h => hFc q h) hFc (fun r_57 u9 t9 H1 locs ht9 hvm9 hw9 hB9 hz9 hk9 hS => ?_)
    have hP : va_P (gD g) cl0 ws H1 := by rw [← ht9]; exact hB9.1
    clear hB9 hz9 hk9 hvm9 ht9 hw9
    generalize H1 = H at hP hS ⊢
    refine lv_aload_n hx hb dX5_useStage_97 rfl (lv_at hl 1 rfl) ?_
    refine lv_iload_n hx hb dX5_useStage_98 rfl (lv_at hl 0 rfl) ?_
    have hFc := gfree hD hS hA
    refine va_calll (va_runV (As := [.int z_6]) (rest := [.int r_57, .ref h0]) ⟨hx, hb, hml, hown, hts⟩ (m_X5_fieldAt l g H.size ws h0 (z_6) hG o_h0) (cwV 1 hts (gd_V kw_1198 kw_1051 kw_1052 kw_398 kw_1050) rfl rfl rfl (by decide +kernel) ⟨Nat.le_of_ble_eq_true rfl, Nat.le_of_ble_eq_true rfl⟩) ⟨gblind, va_recv hK hP (ci := 5) (q0 := k_1) rfl hk_1, fun U hU hW9 => gmk hU hW9 hP hK hD hex hE hS hFc⟩ rfl rfl hl.1 rfl (lv_room (Nat.le_of_ble_eq_true rfl)) dX5_useStage_99 ⟨(show 0 + 0 ≤ PC ws + (0) from (by have e0 : (0 : Int32).toInt = 0 := (by decide); omega)), (show 0 + 0 ≤ PS ws + (0) from (by have e0 : (0 : Int32).toInt = 0 := (by decide); omega))⟩) hS (fun q _ h => hFc q h) hFc (fun r_58 u9 t9 H1 locs ht9 hvm9 hw9 hB9 hz9 hk9 hS => ?_)
    have hP : va_P (gD g) cl0 ws H1 := by rw [← ht9]; exact hB9.1
    clear hB9 hz9 hk9 hvm9 ht9 hw9
    generalize H1 = H at hP hS ⊢
    have hFc := gfree hD hS hA
    refine va_callv (va_runV (As := [.int r_57, .long r_58]) (rest := []) ⟨hx, hb, hml, hown, hts⟩ (m_X5_push_ l g H.size ws h0 (r_57) (r_58) hG o_h0) (cwV 2 hts (gd_V kw_1020 kw_1133 kw_1134 kw_398 kw_1132) rfl rfl rfl (by decide +kernel) ⟨Nat.le_of_ble_eq_true rfl, Nat.le_of_ble_eq_true rfl⟩) ⟨gblind, va_recv hK hP (ci := 5) (q0 := k_1) rfl hk_1, fun U hU hW9 => gmk hU hW9 hP hK hD hex hE hS hFc⟩ rfl rfl hl.1 rfl (lv_room (Nat.le_of_ble_eq_true rfl)) dX5_useStage_102 ⟨(show 0 + 0 ≤ PC ws + (0) from (by have e0 : (0 : Int32).toInt = 0 := (by decide); omega)), (show 0 + 0 ≤ PS ws + (0) from (by have e0 : (0 : Int32).toInt = 0 := (by decide); omega))⟩) hS (fun q _ h => hFc q h) hFc (fun  ws_59 t9 H1 locs ht9 hvm9 hw9 hB9 hz9 hk9 hS => ?_)
    obtain ⟨E_60, Fr_61, hG, hP1, hD1⟩ := hB9
    have hP : va_P (gD g) cl0 ws_59 H1 := by rw [← ht9]; exact hP1
    have hD : va_D A ws_59 := hD1.weaken (fun _ _ _ h => hFc _ h)
    clear hP1 hD1 hz9 hk9 hvm9 ht9 hw9
    generalize H1 = H at hP hS ⊢
    have aa_64 := a_r1_1
    have aa_65 := a_r2_1
    have aa_66 := a_r4_1
    have aa_67 := a_r6_1
    have aa_68 := a_r8_1
    have aa_69 := a_r9_1
    have aa_70 := a_r10_1
    have o_h0 := E_60.1 _ _ o_h0
    have pp_71 := Fr_61.pp
    refine lv_aload_n hx hb dX5_useStage_105 rfl (lv_at hl 1 rfl) ?_
    refine lv_dup hx hb dX5_useStage_106 rfl ?_
    obtain ⟨fs9, hk_72, hq_72⟩ := ((gF.a (F' := [(5, 14), (5, 19)]) Fr_61 (fun _ h => h))) _ _ _ hk_1
    obtain ⟨v0_72, r1_72, n1_72, r2_72, n2_72, c3_72, r4_72, n4_72, c5_72, r6_72, n6_72, c7_72, r8_72, n8_72, r9_72, n9_72, r10_72, n10_72, c11_72, v12_72, c13_72, c14_72, c15_72, l16_72, c17_72, c18_72, c19_72, rfl, o_v0_72, F_v0_72, a_r1_72, f3_72, a_r2_72, f5_72, a_r4_72, f7_72, a_r6_72, f9_72, a_r8_72, f11_72, a_r9_72, f13_72, a_r10_72, f15_72, o_v12_72, f17_72, f18_72, f19_72, f20_72, f21_72, f22_72, f23_72, f24_72, f25_72, f26_72, f27_72, f28_72, f29_72, f30_72, f31_72, -⟩ := (hG.1 _ _ _ _ hk_72).hX5 rfl
    have hn9 := fe_qr (hq_72 0 (by decide))
    subst hn9
    have o_b_2 := o_v0_72 _ rfl
    have F_b_2 := F_v0_72 _ rfl
    have hn9 := fe_qr (hq_72 12 (by decide))
    subst hn9
    have o_b_3 := o_v12_72 _ rfl
    obtain rfl := fe_i (hq_72 13 (by decide))
    refine va_get (D := gD g) (ci := 5) (v := .int c13_1) (C := RX5) (T := TX5) (N := 20) hx hb hts inX5 hown hK hP k_1 hk_72 rfl 13 (by decide) (hts _ kw_1021) (fun _ h9 => h9) rfl dX5_useStage_107 ?_
    refine lv_iconst (v := 1) hx hb dX5_useStage_110 (by decide) ?_
    refine lv_iadd hx hb dX5_useStage_111 ?_
    refine lv_topi (fun z_73 ez_73 => ?_)
    have hV9 : okv ws_59 5 13 (.int z_73) := okv_i
    refine va_put (D := gD g) (ci := 5) (v := .int z_73) (ty := .int) (C := RX5) (T := TX5) (N := 20) hx hb hts inX5 tyX5 tyX5_ok nmX5 hown hK hP hD hS k_1 hk_72 rfl 13 (by decide) (hts _ kw_1021) (fun _ h9 => h9) rfl (by decide +kernel) rfl rfl (Nat.le_of_ble_eq_true rfl) dX5_useStage_112 (fun H locs hP hD hS => ?_)
    have hi_74 : invX5 g ws_59 h0 [.ref b_2, .ref r1_72, .ref r2_72, .int c3_72, .ref r4_72, .int c5_72, .ref r6_72, .int c7_72, .ref r8_72, .ref r9_72, .ref r10_72, .int c11_72, .ref b_3, .int z_73, .int c14_72, .int c15_72, .long l16_72, .int c17_72, .int c18_72, .int c19_72] := ⟨(some b_2), r1_72, (n1_72), r2_72, (n2_72), (c3_72), r4_72, (n4_72), (c5_72), r6_72, (n6_72), (c7_72), r8_72, (n8_72), r9_72, (n9_72), r10_72, (n10_72), (c11_72), (some b_3), (z_73), (c14_72), (c15_72), (l16_72), (c17_72), (c18_72), (c19_72), rfl, (fun b h9 => by cases h9; exact o_b_2), (fun b h9 => by cases h9; exact F_b_2), a_r1_72, f3_72, a_r2_72, f5_72, a_r4_72, f7_72, a_r6_72, f9_72, a_r8_72, f11_72, a_r9_72, f13_72, a_r10_72, f15_72, (fun b h9 => by cases h9; exact o_b_3), f17_72, f18_72, f19_72, f20_72, f21_72, f22_72, f23_72, f24_72, f25_72, f26_72, f27_72, f28_72, f29_72, f30_72, f31_72, trivial⟩
    obtain ⟨ws_75, e_ws_75⟩ : ∃ z, z = ws_59.set k_1 (h0, .inr (5, [.ref b_2, .ref r1_72, .ref r2_72, .int c3_72, .ref r4_72, .int c5_72, .ref r6_72, .int c7_72, .ref r8_72, .ref r9_72, .ref r10_72, .int c11_72, .ref b_3, .int z_73, .int c14_72, .int c15_72, .long l16_72, .int c17_72, .int c18_72, .int c19_72])) := ⟨_, rfl⟩
    have hP : va_P (gD g) cl0 ws_75 H := by rw [e_ws_75]; exact hP
    have hD : va_D A ws_75 := by rw [e_ws_75]; exact hD
    have E_76 : gE ws_59 ws_75 := gE_set e_ws_75 hk_72 (cw_o (fi := 13) (v := .int z_73) rfl (by decide))
    have hG : Good g ws_75 := Good_set (fi := 13) (v := .int z_73) e_ws_75 hk_72 E_76 rfl hV9 hG (ivX5 hi_74)
    have Fr_77 : gF [(5, 13)] [] (some h0) ws_59 ws_75 := gF_put (fi := 13) (v := .int z_73) e_ws_75 hk_72 rfl (by decide)
    have pp_78 := Fr_77.pp
    have hkN := gset_self e_ws_75 hk_72
    have hk_72 := hkN
    have o_h0 := E_76.1 _ _ o_h0
    have a_r1_72 := E_76.1 _ _ a_r1_72
    have a_r2_72 := E_76.1 _ _ a_r2_72
    have a_r4_72 := E_76.1 _ _ a_r4_72
    have a_r6_72 := E_76.1 _ _ a_r6_72
    have a_r8_72 := E_76.1 _ _ a_r8_72
    have a_r9_72 := E_76.1 _ _ a_r9_72
    have a_r10_72 := E_76.1 _ _ a_r10_72
    have o_b_2 := E_76.1 _ _ o_b_2
    have F_b_2 := F_b_2.mo E_76
    have o_b_3 := E_76.1 _ _ o_b_3
    refine lv_goto (tgt := 218) hx hb dX5_useStage_115 (by decide) ?_
    have tq_79 : frP g ws_75 h0 := frP_mo ((gF.tr (gF.mo (F' := [(5, 13), (5, 14), (5, 19)]) (C' := [(5, 9)]) (S' := none) Fr_61 (by decide) (fun _ h => h) (Or.inr rfl)) (gF.mo (F' := [(5, 13), (5, 14), (5, 19)]) (C' := [(5, 9)]) (S' := none) Fr_77 (by decide) (fun _ h => absurd h List.not_mem_nil) (Or.inl rfl)))) (by decide) (by decide) (by decide) (by decide) (by decide) tk0
    have tq_80 : swU ws_75 h0 := swU_mo ((gF.tr (gF.mo (F' := [(5, 13), (5, 14), (5, 19)]) (C' := [(5, 9)]) (S' := none) Fr_61 (by decide) (fun _ h => h) (Or.inr rfl)) (gF.mo (F' := [(5, 13), (5, 14), (5, 19)]) (C' := [(5, 9)]) (S' := none) Fr_77 (by decide) (fun _ h => absurd h List.not_mem_nil) (Or.inl rfl)))) (by decide) (by decide) (by decide) (by decide) (by decide) (by decide) (by decide) (by decide) (by decide) (by decide) (by decide) tk1
    have tq_81 : swC ws_75 h0 := swC_mo ((gF.tr (gF.mo (F' := [(5, 13), (5, 14), (5, 19)]) (C' := [(5, 9)]) (S' := none) Fr_61 (by decide) (fun _ h => h) (Or.inr rfl)) (gF.mo (F' := [(5, 13), (5, 14), (5, 19)]) (C' := [(5, 9)]) (S' := none) Fr_77 (by decide) (fun _ h => absurd h List.not_mem_nil) (Or.inl rfl)))) (by decide) (by decide) (by decide) (by decide) (by decide) (by decide) (by decide) (by decide) (by decide) tk2
    have tq_82 : arP g ws_75 h0 := arP_mo ((gF.tr (gF.mo (F' := [(5, 13), (5, 14), (5, 19)]) (C' := [(5, 9)]) (S' := none) Fr_61 (by decide) (fun _ h => h) (Or.inr rfl)) (gF.mo (F' := [(5, 13), (5, 14), (5, 19)]) (C' := [(5, 9)]) (S' := none) Fr_77 (by decide) (fun _ h => absurd h List.not_mem_nil) (Or.inl rfl)))) ((E_60.tr E_76)) (by decide) (by decide) tk3
    exact J_218 (0) (0) ws_75 H locs ls ((E_60.tr E_76)) ((gF.tr (gF.mo (F' := [(5, 2), (5, 3), (5, 4), (5, 5), (5, 11), (5, 12), (5, 13), (5, 14), (5, 15), (5, 17), (5, 19)]) (C' := [(5, 1), (5, 2), (5, 4), (5, 8), (5, 9), (5, 10)]) (S' := none) Fr_61 (by decide) (by decide) (Or.inr rfl)) (gF.mo (F' := [(5, 2), (5, 3), (5, 4), (5, 5), (5, 11), (5, 12), (5, 13), (5, 14), (5, 15), (5, 17), (5, 19)]) (C' := [(5, 1), (5, 2), (5, 4), (5, 8), (5, 9), (5, 10)]) (S' := none) Fr_77 (by decide) (fun _ h => absurd h List.not_mem_nil) (Or.inl rfl)))) hG (by have e0 : (0 : Int32).toInt = 0 := (by decide); omega) (by have e0 : (0 : Int32).toInt = 0 := (by decide); omega) tq_79 tq_80 tq_81 tq_82 (gN_of hD hk_72 (j := 12) rfl) hP hD hS (lv_sub hl [] rfl)
  have K_14_118 : W p l e (headSpec (wt yX5_useStage cX5_useStage 3 none) ({ frames := 4, cells := PC ws + (0), slots := PS ws + (0), locals := 92 })).room s m ([.ref h0, .int x1] : List Value).toArray below meth c H locs (0) (0) (MQ below (va_Qv (fun (u9 : va_W) => (True) ∧ (gN u9 h0 0) ∧ (gN u9 h0 12) ∧ (frP g u9 h0) ∧ (swU u9 h0) ∧ (swC u9 h0) ∧ (arP g u9 h0)) (gQ2 g [(5, 2), (5, 3), (5, 4), (5, 5), (5, 11), (5, 12), (5, 13), (5, 14), (5, 15), (5, 17), (5, 19)] [(5, 1), (5, 2), (5, 4), (5, 8), (5, 9), (5, 10)] none A ws s.heap (0) (0)) A) ([.ref h0, .int x1] : List Value).toArray s (PC ws + (0)) (PS ws + (0)) A) (F0 m 118 ls []) := by
    refine lv_aload_n hx hb dX5_useStage_118 rfl (lv_at hl 1 rfl) ?_
    refine lv_iload_n hx hb dX5_useStage_119 rfl (lv_at hl 0 rfl) ?_
    refine lv_aload_n hx hb dX5_useStage_120 rfl (lv_at hl 1 rfl) ?_
    refine lv_aload_n hx hb dX5_useStage_121 rfl (lv_at hl 1 rfl) ?_
    refine va_get (D := gD g) (ci := 5) (v := .ref b_2) (C := RX5) (T := TX5) (N := 20) hx hb hts inX5 hown hK hP k_1 hk_1 rfl 0 (by decide) (hts _ kw_1027) (fun _ h9 => h9) rfl dX5_useStage_122 ?_
    refine lv_iload_n hx hb dX5_useStage_125 rfl (lv_at hl 0 rfl) ?_
    have hFc := gfree hD hS hA
    obtain ⟨k_83, fs_83, hk_83⟩ := gC_of o_b_2
    refine va_calli (va_runV (As := [.int z_6]) (rest := [.ref h0, .int z_6, .ref h0]) ⟨hx, hb, hml, hown, hts⟩ (m_X10_kindOfField l g H.size ws b_2 (z_6) hG o_b_2) (cwV 1 hts (gd_V kw_1197 kw_62 kw_63 kw_34 kw_61) rfl rfl rfl (by decide +kernel) ⟨Nat.le_of_ble_eq_true rfl, Nat.le_of_ble_eq_true rfl⟩) ⟨gblind, va_recv hK hP (ci := 9) (q0 := k_83) rfl hk_83, fun U hU hW9 => gmk hU hW9 hP hK hD hex hE hS hFc⟩ rfl rfl hl.1 rfl (lv_room (Nat.le_of_ble_eq_true rfl)) dX5_useStage_126 ⟨(show 0 + 0 ≤ PC ws + (0) from (by have e0 : (0 : Int32).toInt = 0 := (by decide); omega)), (show 0 + 0 ≤ PS ws + (0) from (by have e0 : (0 : Int32).toInt = 0 := (by decide); omega))⟩) hS (fun q _ h => hFc q h) hFc (fun r_84 u9 t9 H1 locs ht9 hvm9 hw9 hB9 hz9 hk9 hS => ?_)
    have hP : va_P (gD g) cl0 ws H1 := by rw [← ht9]; exact hB9.1
    clear hB9 hz9 hk9 hvm9 ht9 hw9
    generalize H1 = H at hP hS ⊢
    have hFc := gfree hD hS hA
    refine va_calll (va_runV (As := [.int r_84]) (rest := [.int z_6, .ref h0]) ⟨hx, hb, hml, hown, hts⟩ (m_X5_pop_ l g H.size ws h0 (r_84) hG o_h0) (cwV 1 hts (gd_V kw_1015 kw_1127 kw_1128 kw_398 kw_1126) rfl rfl rfl (by decide +kernel) ⟨Nat.le_of_ble_eq_true rfl, Nat.le_of_ble_eq_true rfl⟩) ⟨gblind, va_recv hK hP (ci := 5) (q0 := k_1) rfl hk_1, fun U hU hW9 => gmk hU hW9 hP hK hD hex hE hS hFc⟩ rfl rfl hl.1 rfl (lv_room (Nat.le_of_ble_eq_true rfl)) dX5_useStage_129 ⟨(show 0 + 0 ≤ PC ws + (0) from (by have e0 : (0 : Int32).toInt = 0 := (by decide); omega)), (show 0 + 0 ≤ PS ws + (0) from (by have e0 : (0 : Int32).toInt = 0 := (by decide); omega))⟩) hS (fun q _ h => hFc q h) hFc (fun r_85 ws_86 t9 H1 locs ht9 hvm9 hw9 hB9 hz9 hk9 hS => ?_)
    obtain ⟨E_87, Fr_88, hG, hP1, hD1⟩ := hB9
    have hP : va_P (gD g) cl0 ws_86 H1 := by rw [← ht9]; exact hP1
    have hD : va_D A ws_86 := hD1.weaken (fun _ _ _ h => hFc _ h)
    clear hP1 hD1 hz9 hk9 hvm9 ht9 hw9
    generalize H1 = H at hP hS ⊢
    have aa_91 := a_r1_1
    have aa_92 := a_r2_1
    have aa_93 := a_r4_1
    have aa_94 := a_r6_1
    have aa_95 := a_r8_1
    have aa_96 := a_r9_1
    have aa_97 := a_r10_1
    have o_h0 := E_87.1 _ _ o_h0
    have pp_98 := Fr_88.pp
    have hFc := gfree hD hS hA
    obtain ⟨k_99, fs_99, hk_99⟩ := gC_of o_h0
    refine va_callv (va_runV (As := [.int z_6, .long r_85]) (rest := []) ⟨hx, hb, hml, hown, hts⟩ (m_X5_setField l g H.size ws_86 h0 (z_6) (r_85) hG o_h0) (cwV 2 hts (gd_V kw_1199 kw_1145 kw_1146 kw_398 kw_1144) rfl rfl rfl (by decide +kernel) ⟨Nat.le_of_ble_eq_true rfl, Nat.le_of_ble_eq_true rfl⟩) ⟨gblind, va_recv hK hP (ci := 5) (q0 := k_99) rfl hk_99, fun U hU hW9 => gmk hU hW9 hP hK hD hex hE hS hFc⟩ rfl rfl hl.1 rfl (lv_room (Nat.le_of_ble_eq_true rfl)) dX5_useStage_132 ⟨(show 0 + 0 ≤ PC ws + (0) from (by have e0 : (0 : Int32).toInt = 0 := (by decide); omega)), (show 0 + 0 ≤ PS ws + (0) from (by have e0 : (0 : Int32).toInt = 0 := (by decide); omega))⟩) hS (fun q _ h => hFc q h) hFc (fun  ws_100 t9 H1 locs ht9 hvm9 hw9 hB9 hz9 hk9 hS => ?_)
    obtain ⟨E_101, Fr_102, hG, hP1, hD1⟩ := hB9
    have hP : va_P (gD g) cl0 ws_100 H1 := by rw [← ht9]; exact hP1
    have hD : va_D A ws_100 := hD1.weaken (fun _ _ _ h => hFc _ h)
    clear hP1 hD1 hz9 hk9 hvm9 ht9 hw9
    generalize H1 = H at hP hS ⊢
    have o_h0 := E_101.1 _ _ o_h0
    have pp_105 := Fr_102.pp
    refine lv_aload_n hx hb dX5_useStage_135 rfl (lv_at hl 1 rfl) ?_
    refine lv_dup hx hb dX5_useStage_136 rfl ?_
    obtain ⟨fs9, hk_106, hq_106⟩ := ((gA.tr (gF.a (F' := [(5, 14), (5, 19)]) Fr_88 (fun _ h => h)) (gF.a (F' := [(5, 14), (5, 19)]) Fr_102 (by decide)))) _ _ _ hk_1
    obtain ⟨v0_106, r1_106, n1_106, r2_106, n2_106, c3_106, r4_106, n4_106, c5_106, r6_106, n6_106, c7_106, r8_106, n8_106, r9_106, n9_106, r10_106, n10_106, c11_106, v12_106, c13_106, c14_106, c15_106, l16_106, c17_106, c18_106, c19_106, rfl, o_v0_106, F_v0_106, a_r1_106, f3_106, a_r2_106, f5_106, a_r4_106, f7_106, a_r6_106, f9_106, a_r8_106, f11_106, a_r9_106, f13_106, a_r10_106, f15_106, o_v12_106, f17_106, f18_106, f19_106, f20_106, f21_106, f22_106, f23_106, f24_106, f25_106, f26_106, f27_106, f28_106, f29_106, f30_106, f31_106, -⟩ := (hG.1 _ _ _ _ hk_106).hX5 rfl
    have hn9 := fe_qr (hq_106 0 (by decide))
    subst hn9
    have o_b_2 := o_v0_106 _ rfl
    have F_b_2 := F_v0_106 _ rfl
    have hn9 := fe_qr (hq_106 12 (by decide))
    subst hn9
    have o_b_3 := o_v12_106 _ rfl
    obtain rfl := fe_i (hq_106 13 (by decide))
    refine va_get (D := gD g) (ci := 5) (v := .int c13_1) (C := RX5) (T := TX5) (N := 20) hx hb hts inX5 hown hK hP k_1 hk_106 rfl 13 (by decide) (hts _ kw_1021) (fun _ h9 => h9) rfl dX5_useStage_137 ?_
    refine lv_iconst (v := 1) hx hb dX5_useStage_140 (by decide) ?_
    refine lv_iadd hx hb dX5_useStage_141 ?_
    refine lv_topi (fun z_107 ez_107 => ?_)
    have hV9 : okv ws_100 5 13 (.int z_107) := okv_i
    refine va_put (D := gD g) (ci := 5) (v := .int z_107) (ty := .int) (C := RX5) (T := TX5) (N := 20) hx hb hts inX5 tyX5 tyX5_ok nmX5 hown hK hP hD hS k_1 hk_106 rfl 13 (by decide) (hts _ kw_1021) (fun _ h9 => h9) rfl (by decide +kernel) rfl rfl (Nat.le_of_ble_eq_true rfl) dX5_useStage_142 (fun H locs hP hD hS => ?_)
    have hi_108 : invX5 g ws_100 h0 [.ref b_2, .ref r1_106, .ref r2_106, .int c3_106, .ref r4_106, .int c5_106, .ref r6_106, .int c7_106, .ref r8_106, .ref r9_106, .ref r10_106, .int c11_106, .ref b_3, .int z_107, .int c14_106, .int c15_106, .long l16_106, .int c17_106, .int c18_106, .int c19_106] := ⟨(some b_2), r1_106, (n1_106), r2_106, (n2_106), (c3_106), r4_106, (n4_106), (c5_106), r6_106, (n6_106), (c7_106), r8_106, (n8_106), r9_106, (n9_106), r10_106, (n10_106), (c11_106), (some b_3), (z_107), (c14_106), (c15_106), (l16_106), (c17_106), (c18_106), (c19_106), rfl, (fun b h9 => by cases h9; exact o_b_2), (fun b h9 => by cases h9; exact F_b_2), a_r1_106, f3_106, a_r2_106, f5_106, a_r4_106, f7_106, a_r6_106, f9_106, a_r8_106, f11_106, a_r9_106, f13_106, a_r10_106, f15_106, (fun b h9 => by cases h9; exact o_b_3), f17_106, f18_106, f19_106, f20_106, f21_106, f22_106, f23_106, f24_106, f25_106, f26_106, f27_106, f28_106, f29_106, f30_106, f31_106, trivial⟩
    obtain ⟨ws_109, e_ws_109⟩ : ∃ z, z = ws_100.set k_1 (h0, .inr (5, [.ref b_2, .ref r1_106, .ref r2_106, .int c3_106, .ref r4_106, .int c5_106, .ref r6_106, .int c7_106, .ref r8_106, .ref r9_106, .ref r10_106, .int c11_106, .ref b_3, .int z_107, .int c14_106, .int c15_106, .long l16_106, .int c17_106, .int c18_106, .int c19_106])) := ⟨_, rfl⟩
    have hP : va_P (gD g) cl0 ws_109 H := by rw [e_ws_109]; exact hP
    have hD : va_D A ws_109 := by rw [e_ws_109]; exact hD
    have E_110 : gE ws_100 ws_109 := gE_set e_ws_109 hk_106 (cw_o (fi := 13) (v := .int z_107) rfl (by decide))
    have hG : Good g ws_109 := Good_set (fi := 13) (v := .int z_107) e_ws_109 hk_106 E_110 rfl hV9 hG (ivX5 hi_108)
    have Fr_111 : gF [(5, 13)] [] (some h0) ws_100 ws_109 := gF_put (fi := 13) (v := .int z_107) e_ws_109 hk_106 rfl (by decide)
    have pp_112 := Fr_111.pp
    have hkN := gset_self e_ws_109 hk_106
    have hk_106 := hkN
    have o_h0 := E_110.1 _ _ o_h0
    have a_r1_106 := E_110.1 _ _ a_r1_106
    have a_r2_106 := E_110.1 _ _ a_r2_106
    have a_r4_106 := E_110.1 _ _ a_r4_106
    have a_r6_106 := E_110.1 _ _ a_r6_106
    have a_r8_106 := E_110.1 _ _ a_r8_106
    have a_r9_106 := E_110.1 _ _ a_r9_106
    have a_r10_106 := E_110.1 _ _ a_r10_106
    have o_b_2 := E_110.1 _ _ o_b_2
    have F_b_2 := F_b_2.mo E_110
    have o_b_3 := E_110.1 _ _ o_b_3
    refine lv_goto (tgt := 218) hx hb dX5_useStage_145 (by decide) ?_
    have tq_113 : frP g ws_109 h0 := frP_mo ((gF.tr (gF.mo (F' := [(5, 13), (5, 14), (5, 19)]) (C' := [(5, 1)]) (S' := none) Fr_88 (by decide) (fun _ h => absurd h List.not_mem_nil) (Or.inr rfl)) (gF.tr (gF.mo (F' := [(5, 13), (5, 14), (5, 19)]) (C' := [(5, 1)]) (S' := none) Fr_102 (by decide) (fun _ h => h) (Or.inr rfl)) (gF.mo (F' := [(5, 13), (5, 14), (5, 19)]) (C' := [(5, 1)]) (S' := none) Fr_111 (by decide) (fun _ h => absurd h List.not_mem_nil) (Or.inl rfl))))) (by decide) (by decide) (by decide) (by decide) (by decide) tk0
    have tq_114 : swU ws_109 h0 := swU_mo ((gF.tr (gF.mo (F' := [(5, 13), (5, 14), (5, 19)]) (C' := [(5, 1)]) (S' := none) Fr_88 (by decide) (fun _ h => absurd h List.not_mem_nil) (Or.inr rfl)) (gF.tr (gF.mo (F' := [(5, 13), (5, 14), (5, 19)]) (C' := [(5, 1)]) (S' := none) Fr_102 (by decide) (fun _ h => h) (Or.inr rfl)) (gF.mo (F' := [(5, 13), (5, 14), (5, 19)]) (C' := [(5, 1)]) (S' := none) Fr_111 (by decide) (fun _ h => absurd h List.not_mem_nil) (Or.inl rfl))))) (by decide) (by decide) (by decide) (by decide) (by decide) (by decide) (by decide) (by decide) (by decide) (by decide) (by decide) tk1
    have tq_115 : swC ws_109 h0 := swC_mo ((gF.tr (gF.mo (F' := [(5, 13), (5, 14), (5, 19)]) (C' := [(5, 1)]) (S' := none) Fr_88 (by decide) (fun _ h => absurd h List.not_mem_nil) (Or.inr rfl)) (gF.tr (gF.mo (F' := [(5, 13), (5, 14), (5, 19)]) (C' := [(5, 1)]) (S' := none) Fr_102 (by decide) (fun _ h => h) (Or.inr rfl)) (gF.mo (F' := [(5, 13), (5, 14), (5, 19)]) (C' := [(5, 1)]) (S' := none) Fr_111 (by decide) (fun _ h => absurd h List.not_mem_nil) (Or.inl rfl))))) (by decide) (by decide) (by decide) (by decide) (by decide) (by decide) (by decide) (by decide) (by decide) tk2
    have tq_116 : arP g ws_109 h0 := arP_mo ((gF.tr (gF.mo (F' := [(5, 13), (5, 14), (5, 19)]) (C' := [(5, 1)]) (S' := none) Fr_88 (by decide) (fun _ h => absurd h List.not_mem_nil) (Or.inr rfl)) (gF.tr (gF.mo (F' := [(5, 13), (5, 14), (5, 19)]) (C' := [(5, 1)]) (S' := none) Fr_102 (by decide) (fun _ h => h) (Or.inr rfl)) (gF.mo (F' := [(5, 13), (5, 14), (5, 19)]) (C' := [(5, 1)]) (S' := none) Fr_111 (by decide) (fun _ h => absurd h List.not_mem_nil) (Or.inl rfl))))) ((E_87.tr (E_101.tr E_110))) (by decide) (by decide) tk3
    exact J_218 (0) (0) ws_109 H locs ls ((E_87.tr (E_101.tr E_110))) ((gF.tr (gF.mo (F' := [(5, 2), (5, 3), (5, 4), (5, 5), (5, 11), (5, 12), (5, 13), (5, 14), (5, 15), (5, 17), (5, 19)]) (C' := [(5, 1), (5, 2), (5, 4), (5, 8), (5, 9), (5, 10)]) (S' := none) Fr_88 (by decide) (fun _ h => absurd h List.not_mem_nil) (Or.inr rfl)) (gF.tr (gF.mo (F' := [(5, 2), (5, 3), (5, 4), (5, 5), (5, 11), (5, 12), (5, 13), (5, 14), (5, 15), (5, 17), (5, 19)]) (C' := [(5, 1), (5, 2), (5, 4), (5, 8), (5, 9), (5, 10)]) (S' := none) Fr_102 (by decide) (by decide) (Or.inr rfl)) (gF.mo (F' := [(5, 2), (5, 3), (5, 4), (5, 5), (5, 11), (5, 12), (5, 13), (5, 14), (5, 15), (5, 17), (5, 19)]) (C' := [(5, 1), (5, 2), (5, 4), (5, 8), (5, 9), (5, 10)]) (S' := none) Fr_111 (by decide) (fun _ h => absurd h List.not_mem_nil) (Or.inl rfl))))) hG (by have e0 : (0 : Int32).toInt = 0 := (by decide); omega) (by have e0 : (0 : Int32).toInt = 0 := (by decide); omega) tq_113 tq_114 tq_115 tq_116 (gN_of hD hk_106 (j := 12) rfl) hP hD hS (lv_sub hl [] rfl)
  have K_14_148 : W p l e (headSpec (wt yX5_useStage cX5_useStage 3 none) ({ frames := 4, cells := PC ws + (0), slots := PS ws + (0), locals := 92 })).room s m ([.ref h0, .int x1] : List Value).toArray below meth c H locs (0) (0) (MQ below (va_Qv (fun (u9 : va_W) => (True) ∧ (gN u9 h0 0) ∧ (gN u9 h0 12) ∧ (frP g u9 h0) ∧ (swU u9 h0) ∧ (swC u9 h0) ∧ (arP g u9 h0)) (gQ2 g [(5, 2), (5, 3), (5, 4), (5, 5), (5, 11), (5, 12), (5, 13), (5, 14), (5, 15), (5, 17), (5, 19)] [(5, 1), (5, 2), (5, 4), (5, 8), (5, 9), (5, 10)] none A ws s.heap (0) (0)) A) ([.ref h0, .int x1] : List Value).toArray s (PC ws + (0)) (PS ws + (0)) A) (F0 m 148 ls []) := by
    refine lv_aload_n hx hb dX5_useStage_148 rfl (lv_at hl 1 rfl) ?_
    refine lv_iload_n hx hb dX5_useStage_149 rfl (lv_at hl 0 rfl) ?_
    have hFc := gfree hD hS hA
    refine va_callv (va_runV (As := [.int z_6]) (rest := []) ⟨hx, hb, hml, hown, hts⟩ (m_X5_enter l g H.size ws h0 (z_6) hG o_h0 (gN_of hD hk_1 (j := 0) rfl) (gN_of hD hk_1 (j := 12) rfl) tk0 tk1 tk2 tk3) (cwV 1 hts (gd_V kw_1200 kw_1039 kw_1040 kw_398 kw_1038) rfl rfl rfl (by decide +kernel) ⟨Nat.le_of_ble_eq_true rfl, Nat.le_of_ble_eq_true rfl⟩) ⟨gblind, va_recv hK hP (ci := 5) (q0 := k_1) rfl hk_1, fun U hU hW9 => gmk hU hW9 hP hK hD hex hE hS hFc⟩ rfl rfl hl.1 rfl (lv_room (Nat.le_of_ble_eq_true rfl)) dX5_useStage_150 ⟨(show 0 + 0 ≤ PC ws + (0) from (by have e0 : (0 : Int32).toInt = 0 := (by decide); omega)), (show 0 + 0 ≤ PS ws + (0) from (by have e0 : (0 : Int32).toInt = 0 := (by decide); omega))⟩) hS (fun q _ h => hFc q h) hFc (fun  ws_117 t9 H1 locs ht9 hvm9 hw9 hB9 hz9 hk9 hS => ?_)
    obtain ⟨E_118, Fr_119, hG, hP1, hD1⟩ := hB9
    have hP : va_P (gD g) cl0 ws_117 H1 := by rw [← ht9]; exact hP1
    have hD : va_D A ws_117 := hD1.weaken (fun _ _ _ h => hFc _ h)
    obtain ⟨hw9, xp_122, xp_123, xp_124, xp_125, xp_126, xp_127⟩ := hw9
    clear hP1 hD1 hz9 hk9 hvm9 ht9 hw9
    generalize H1 = H at hP hS ⊢
    have aa_128 := a_r1_1
    have aa_129 := a_r2_1
    have aa_130 := a_r4_1
    have aa_131 := a_r6_1
    have aa_132 := a_r8_1
    have aa_133 := a_r9_1
    have aa_134 := a_r10_1
    have o_h0 := E_118.1 _ _ o_h0
    have pp_135 := Fr_119.pp
    obtain ⟨fs9, hk_136, hq_136⟩ := ((gF.a (F' := [(5, 11), (5, 12), (5, 13), (5, 14), (5, 15), (5, 19)]) Fr_119 (fun _ h => h))) _ _ _ hk_1
    obtain ⟨v0_136, r1_136, n1_136, r2_136, n2_136, c3_136, r4_136, n4_136, c5_136, r6_136, n6_136, c7_136, r8_136, n8_136, r9_136, n9_136, r10_136, n10_136, c11_136, v12_136, c13_136, c14_136, c15_136, l16_136, c17_136, c18_136, c19_136, rfl, o_v0_136, F_v0_136, a_r1_136, f3_136, a_r2_136, f5_136, a_r4_136, f7_136, a_r6_136, f9_136, a_r8_136, f11_136, a_r9_136, f13_136, a_r10_136, f15_136, o_v12_136, f17_136, f18_136, f19_136, f20_136, f21_136, f22_136, f23_136, f24_136, f25_136, f26_136, f27_136, f28_136, f29_136, f30_136, f31_136, -⟩ := (hG.1 _ _ _ _ hk_136).hX5 rfl
    have hn9 := fe_qr (hq_136 0 (by decide))
    subst hn9
    have o_b_2 := o_v0_136 _ rfl
    have F_b_2 := F_v0_136 _ rfl
    obtain ⟨b_137, hn9⟩ := xp_123 _ _ _ hk_136
    have hn9 := fe_qr hn9
    subst hn9
    have o_b_137 := o_v12_136 _ rfl
    refine lv_goto (tgt := 218) hx hb dX5_useStage_153 (by decide) ?_
    exact J_218 (0) (0) ws_117 H locs ls (E_118) ((gF.mo (F' := [(5, 2), (5, 3), (5, 4), (5, 5), (5, 11), (5, 12), (5, 13), (5, 14), (5, 15), (5, 17), (5, 19)]) (C' := [(5, 1), (5, 2), (5, 4), (5, 8), (5, 9), (5, 10)]) (S' := none) Fr_119 (by decide) (by decide) (Or.inr rfl))) hG (by have e0 : (0 : Int32).toInt = 0 := (by decide); omega) (by have e0 : (0 : Int32).toInt = 0 := (by decide); omega) xp_124 xp_125 xp_126 xp_127 (gN_of hD hk_136 (j := 12) rfl) hP hD hS (lv_sub hl [] rfl)
  have K_14_167 : W p l e (headSpec (wt yX5_useStage cX5_useStage 3 none) ({ frames := 4, cells := PC ws + (0), slots := PS ws + (0), locals := 92 })).room s m ([.ref h0, .int x1] : List Value).toArray below meth c H locs (0) (0) (MQ below (va_Qv (fun (u9 : va_W) => (True) ∧ (gN u9 h0 0) ∧ (gN u9 h0 12) ∧ (frP g u9 h0) ∧ (swU u9 h0) ∧ (swC u9 h0) ∧ (arP g u9 h0)) (gQ2 g [(5, 2), (5, 3), (5, 4), (5, 5), (5, 11), (5, 12), (5, 13), (5, 14), (5, 15), (5, 17), (5, 19)] [(5, 1), (5, 2), (5, 4), (5, 8), (5, 9), (5, 10)] none A ws s.heap (0) (0)) A) ([.ref h0, .int x1] : List Value).toArray s (PC ws + (0)) (PS ws + (0)) A) (F0 m 167 ls []) := by
    refine lv_aload_n hx hb dX5_useStage_167 rfl (lv_at hl 1 rfl) ?_
    refine lv_aload_n hx hb dX5_useStage_168 rfl (lv_at hl 1 rfl) ?_
    have hFc := gfree hD hS hA
    refine va_calll (va_runV (As := []) (rest := [.ref h0]) ⟨hx, hb, hml, hown, hts⟩ (m_X5_pop l g H.size ws h0 hG o_h0) (cwV 0 hts (gd_V kw_1080 kw_1124 kw_1125 kw_398 kw_1123) rfl rfl rfl (by decide +kernel) ⟨Nat.le_of_ble_eq_true rfl, Nat.le_of_ble_eq_true rfl⟩) ⟨gblind, va_recv hK hP (ci := 5) (q0 := k_1) rfl hk_1, fun U hU hW9 => gmk hU hW9 hP hK hD hex hE hS hFc⟩ rfl rfl hl.1 rfl (lv_room (Nat.le_of_ble_eq_true rfl)) dX5_useStage_169 ⟨(show 0 + 0 ≤ PC ws + (0) from (by have e0 : (0 : Int32).toInt = 0 := (by decide); omega)), (show 0 + 0 ≤ PS ws + (0) from (by have e0 : (0 : Int32).toInt = 0 := (by decide); omega))⟩) hS (fun q _ h => hFc q h) hFc (fun r_138 ws_139 t9 H1 locs ht9 hvm9 hw9 hB9 hz9 hk9 hS => ?_)
    obtain ⟨E_140, Fr_141, hG, hP1, hD1⟩ := hB9
    have hP : va_P (gD g) cl0 ws_139 H1 := by rw [← ht9]; exact hP1
    have hD : va_D A ws_139 := hD1.weaken (fun _ _ _ h => hFc _ h)
    clear hP1 hD1 hz9 hk9 hvm9 ht9 hw9
    generalize H1 = H at hP hS ⊢
    have aa_144 := a_r1_1
    have aa_145 := a_r2_1
    have aa_146 := a_r4_1
    have aa_147 := a_r6_1
    have aa_148 := a_r8_1
    have aa_149 := a_r9_1
    have aa_150 := a_r10_1
    have o_h0 := E_140.1 _ _ o_h0
    have pp_151 := Fr_141.pp
    obtain ⟨z_152, ez_152⟩ : ∃ y : Int32, (r_138 : Int64).toInt32 = y := ⟨_, rfl⟩
    refine lv_l2i (v := z_152) hx hb dX5_useStage_172 ez_152 ?_
    obtain ⟨fs9, hk_153, hq_153⟩ := ((gF.a (F' := [(5, 14), (5, 19)]) Fr_141 (fun _ h => h))) _ _ _ hk_1
    obtain ⟨v0_153, r1_153, n1_153, r2_153, n2_153, c3_153, r4_153, n4_153, c5_153, r6_153, n6_153, c7_153, r8_153, n8_153, r9_153, n9_153, r10_153, n10_153, c11_153, v12_153, c13_153, c14_153, c15_153, l16_153, c17_153, c18_153, c19_153, rfl, o_v0_153, F_v0_153, a_r1_153, f3_153, a_r2_153, f5_153, a_r4_153, f7_153, a_r6_153, f9_153, a_r8_153, f11_153, a_r9_153, f13_153, a_r10_153, f15_153, o_v12_153, f17_153, f18_153, f19_153, f20_153, f21_153, f22_153, f23_153, f24_153, f25_153, f26_153, f27_153, f28_153, f29_153, f30_153, f31_153, -⟩ := (hG.1 _ _ _ _ hk_153).hX5 rfl
    have hn9 := fe_qr (hq_153 0 (by decide))
    subst hn9
    have o_b_2 := o_v0_153 _ rfl
    have F_b_2 := F_v0_153 _ rfl
    have hn9 := fe_qr (hq_153 12 (by decide))
    subst hn9
    have o_b_3 := o_v12_153 _ rfl
    obtain rfl := fe_i (hq_153 13 (by decide))
    have tq_154 : frP g ws_139 h0 := frP_mo (Fr_141) (by decide) (by decide) (by decide) (by decide) (by decide) tk0
    have tq_155 : swU ws_139 h0 := swU_mo (Fr_141) (by decide) (by decide) (by decide) (by decide) (by decide) (by decide) (by decide) (by decide) (by decide) (by decide) (by decide) tk1
    have tq_156 : swC ws_139 h0 := swC_mo (Fr_141) (by decide) (by decide) (by decide) (by decide) (by decide) (by decide) (by decide) (by decide) (by decide) tk2
    have tq_157 : arP g ws_139 h0 := arP_mo (Fr_141) (E_140) (by decide) (by decide) tk3
    have hFc := gfree hD hS hA
    have pg_158 := ge_5_9 hD hk_153 rfl a_r9_153
    have pg_159 := ge_5_2 hD hk_153 rfl a_r2_153
    have pg_160 := ge_5_4 hD hk_153 rfl a_r4_153
    refine W_led (fun hL0 => ?_)
    refine va_callv (va_runV (As := [.int z_152]) (rest := []) ⟨hx, hb, hml, hown, hts⟩ (m_X5_makeArray l g H ws_139 h0 (z_152) hG o_h0 (gN_of hD hk_153 (j := 0) rfl) (gN_of hD hk_153 (j := 12) rfl) tq_154 tq_155 tq_156 tq_157) (cwV 1 hts (gd_V kw_1202 kw_1095 kw_1096 kw_398 kw_1094) rfl rfl rfl (by decide +kernel) ⟨Nat.le_of_ble_eq_true rfl, Nat.le_of_ble_eq_true rfl⟩) ⟨gblindH, va_recv hK hP (ci := 5) (q0 := k_1) rfl hk_153, fun U hU hW9 => gmkH hU hW9 hP hK hD hex hE hS hFc⟩ rfl rfl hl.1 rfl (lv_room (Nat.le_of_ble_eq_true rfl)) dX5_useStage_173 ⟨(show 0 + (PC ws_139 + (0)) ≤ PC ws + (0) from (by have e0 : (0 : Int32).toInt = 0 := (by decide); omega)), (show 0 + (PS ws_139 + (0)) ≤ PS ws + (0) from (by have e0 : (0 : Int32).toInt = 0 := (by decide); omega))⟩) hS (fun q _ h => hFc q h) hFc (fun  ws_161 t9 H1 locs ht9 hvm9 hw9 hB9 hz9 hk9 hS => ?_)
    obtain ⟨E_162, Fr_163, hG, hP1, hD1, dc_164, ds_165, hLd, hdc_164, hds_165⟩ := hB9
    rw [ht9] at hLd
    refine W_tight (hL0.tr hLd).1 (hL0.tr hLd).2.1 ?_
    clear hL0 hLd
    have hP : va_P (gD g) cl0 ws_161 H1 := by rw [← ht9]; exact hP1
    have hD : va_D A ws_161 := hD1.weaken (fun _ _ _ h => hFc _ h)
    obtain ⟨hw9, xp_166, xp_167, xp_168, xp_169, xp_170, xp_171⟩ := hw9
    clear hP1 hD1 hz9 hk9 hvm9 ht9 hw9
    generalize H1 = H at hP hS ⊢
    have aa_172 := a_r1_153
    have aa_173 := a_r2_153
    have aa_174 := a_r4_153
    have aa_175 := a_r6_153
    have aa_176 := a_r8_153
    have aa_177 := a_r9_153
    have aa_178 := a_r10_153
    have o_h0 := E_162.1 _ _ o_h0
    obtain ⟨fs9, hk_179, hq_179⟩ := ((gF.a (F' := [(5, 2), (5, 3), (5, 4), (5, 5), (5, 11), (5, 12), (5, 13), (5, 14), (5, 15), (5, 17), (5, 19)]) Fr_163 (fun _ h => h))) _ _ _ hk_153
    obtain ⟨v0_179, r1_179, n1_179, r2_179, n2_179, c3_179, r4_179, n4_179, c5_179, r6_179, n6_179, c7_179, r8_179, n8_179, r9_179, n9_179, r10_179, n10_179, c11_179, v12_179, c13_179, c14_179, c15_179, l16_179, c17_179, c18_179, c19_179, rfl, o_v0_179, F_v0_179, a_r1_179, f3_179, a_r2_179, f5_179, a_r4_179, f7_179, a_r6_179, f9_179, a_r8_179, f11_179, a_r9_179, f13_179, a_r10_179, f15_179, o_v12_179, f17_179, f18_179, f19_179, f20_179, f21_179, f22_179, f23_179, f24_179, f25_179, f26_179, f27_179, f28_179, f29_179, f30_179, f31_179, -⟩ := (hG.1 _ _ _ _ hk_179).hX5 rfl
    have hn9 := fe_qr (hq_179 0 (by decide))
    subst hn9
    have o_b_2 := o_v0_179 _ rfl
    have F_b_2 := F_v0_179 _ rfl
    obtain ⟨b_180, hn9⟩ := xp_167 _ _ _ hk_179
    have hn9 := fe_qr hn9
    subst hn9
    have o_b_180 := o_v12_179 _ rfl
    refine lv_goto (tgt := 218) hx hb dX5_useStage_176 (by decide) ?_
    exact J_218 (0 + dc_164) (0 + ds_165) ws_161 H locs ls ((E_140.tr E_162)) ((gF.tr (gF.mo (F' := [(5, 2), (5, 3), (5, 4), (5, 5), (5, 11), (5, 12), (5, 13), (5, 14), (5, 15), (5, 17), (5, 19)]) (C' := [(5, 1), (5, 2), (5, 4), (5, 8), (5, 9), (5, 10)]) (S' := none) Fr_141 (by decide) (fun _ h => absurd h List.not_mem_nil) (Or.inr rfl)) (gF.mo (F' := [(5, 2), (5, 3), (5, 4), (5, 5), (5, 11), (5, 12), (5, 13), (5, 14), (5, 15), (5, 17), (5, 19)]) (C' := [(5, 1), (5, 2), (5, 4), (5, 8), (5, 9), (5, 10)]) (S' := none) Fr_163 (fun _ h => h) (by decide) (Or.inr rfl)))) hG (by omega) (by omega) xp_168 xp_169 xp_170 xp_171 (gN_of hD hk_179 (j := 12) rfl) hP hD hS (lv_sub hl [] rfl)
  have K_14_179 : W p l e (headSpec (wt yX5_useStage cX5_useStage 3 none) ({ frames := 4, cells := PC ws + (0), slots := PS ws + (0), locals := 92 })).room s m ([.ref h0, .int x1] : List Value).toArray below meth c H locs (0) (0) (MQ below (va_Qv (fun (u9 : va_W) => (True) ∧ (gN u9 h0 0) ∧ (gN u9 h0 12) ∧ (frP g u9 h0) ∧ (swU u9 h0) ∧ (swC u9 h0) ∧ (arP g u9 h0)) (gQ2 g [(5, 2), (5, 3), (5, 4), (5, 5), (5, 11), (5, 12), (5, 13), (5, 14), (5, 15), (5, 17), (5, 19)] [(5, 1), (5, 2), (5, 4), (5, 8), (5, 9), (5, 10)] none A ws s.heap (0) (0)) A) ([.ref h0, .int x1] : List Value).toArray s (PC ws + (0)) (PS ws + (0)) A) (F0 m 179 ls []) := by
    refine lv_aload_n hx hb dX5_useStage_179 rfl (lv_at hl 1 rfl) ?_
    refine lv_aload_n hx hb dX5_useStage_180 rfl (lv_at hl 1 rfl) ?_
    have hFc := gfree hD hS hA
    refine va_calll (va_runV (As := []) (rest := [.ref h0]) ⟨hx, hb, hml, hown, hts⟩ (m_X5_pop l g H.size ws h0 hG o_h0) (cwV 0 hts (gd_V kw_1080 kw_1124 kw_1125 kw_398 kw_1123) rfl rfl rfl (by decide +kernel) ⟨Nat.le_of_ble_eq_true rfl, Nat.le_of_ble_eq_true rfl⟩) ⟨gblind, va_recv hK hP (ci := 5) (q0 := k_1) rfl hk_1, fun U hU hW9 => gmk hU hW9 hP hK hD hex hE hS hFc⟩ rfl rfl hl.1 rfl (lv_room (Nat.le_of_ble_eq_true rfl)) dX5_useStage_181 ⟨(show 0 + 0 ≤ PC ws + (0) from (by have e0 : (0 : Int32).toInt = 0 := (by decide); omega)), (show 0 + 0 ≤ PS ws + (0) from (by have e0 : (0 : Int32).toInt = 0 := (by decide); omega))⟩) hS (fun q _ h => hFc q h) hFc (fun r_181 ws_182 t9 H1 locs ht9 hvm9 hw9 hB9 hz9 hk9 hS => ?_)
    obtain ⟨E_183, Fr_184, hG, hP1, hD1⟩ := hB9
    have hP : va_P (gD g) cl0 ws_182 H1 := by rw [← ht9]; exact hP1
    have hD : va_D A ws_182 := hD1.weaken (fun _ _ _ h => hFc _ h)
    clear hP1 hD1 hz9 hk9 hvm9 ht9 hw9
    generalize H1 = H at hP hS ⊢
    have aa_187 := a_r1_1
    have aa_188 := a_r2_1
    have aa_189 := a_r4_1
    have aa_190 := a_r6_1
    have aa_191 := a_r8_1
    have aa_192 := a_r9_1
    have aa_193 := a_r10_1
    have o_h0 := E_183.1 _ _ o_h0
    have pp_194 := Fr_184.pp
    obtain ⟨fs9, hk_195, hq_195⟩ := ((gF.a (F' := [(5, 14), (5, 19)]) Fr_184 (fun _ h => h))) _ _ _ hk_1
    obtain ⟨v0_195, r1_195, n1_195, r2_195, n2_195, c3_195, r4_195, n4_195, c5_195, r6_195, n6_195, c7_195, r8_195, n8_195, r9_195, n9_195, r10_195, n10_195, c11_195, v12_195, c13_195, c14_195, c15_195, l16_195, c17_195, c18_195, c19_195, rfl, o_v0_195, F_v0_195, a_r1_195, f3_195, a_r2_195, f5_195, a_r4_195, f7_195, a_r6_195, f9_195, a_r8_195, f11_195, a_r9_195, f13_195, a_r10_195, f15_195, o_v12_195, f17_195, f18_195, f19_195, f20_195, f21_195, f22_195, f23_195, f24_195, f25_195, f26_195, f27_195, f28_195, f29_195, f30_195, f31_195, -⟩ := (hG.1 _ _ _ _ hk_195).hX5 rfl
    have hn9 := fe_qr (hq_195 0 (by decide))
    subst hn9
    have o_b_2 := o_v0_195 _ rfl
    have F_b_2 := F_v0_195 _ rfl
    have hn9 := fe_qr (hq_195 12 (by decide))
    subst hn9
    have o_b_3 := o_v12_195 _ rfl
    obtain rfl := fe_i (hq_195 13 (by decide))
    have tq_196 : frP g ws_182 h0 := frP_mo (Fr_184) (by decide) (by decide) (by decide) (by decide) (by decide) tk0
    have tq_197 : swU ws_182 h0 := swU_mo (Fr_184) (by decide) (by decide) (by decide) (by decide) (by decide) (by decide) (by decide) (by decide) (by decide) (by decide) (by decide) tk1
    have tq_198 : swC ws_182 h0 := swC_mo (Fr_184) (by decide) (by decide) (by decide) (by decide) (by decide) (by decide) (by decide) (by decide) (by decide) tk2
    have tq_199 : arP g ws_182 h0 := arP_mo (Fr_184) (E_183) (by decide) (by decide) tk3
    have hFc := gfree hD hS hA
    refine va_callv (va_runV (As := [.long r_181]) (rest := []) ⟨hx, hb, hml, hown, hts⟩ (m_X5_tellLength l g H.size ws_182 h0 (r_181) hG o_h0 (gN_of hD hk_195 (j := 0) rfl) (gN_of hD hk_195 (j := 12) rfl) tq_196 tq_197 tq_198 tq_199) (cwV 1 hts (gd_V kw_1203 kw_1184 kw_1185 kw_398 kw_1183) rfl rfl rfl (by decide +kernel) ⟨Nat.le_of_ble_eq_true rfl, Nat.le_of_ble_eq_true rfl⟩) ⟨gblind, va_recv hK hP (ci := 5) (q0 := k_1) rfl hk_195, fun U hU hW9 => gmk hU hW9 hP hK hD hex hE hS hFc⟩ rfl rfl hl.1 rfl (lv_room (Nat.le_of_ble_eq_true rfl)) dX5_useStage_184 ⟨(show 0 + 0 ≤ PC ws + (0) from (by have e0 : (0 : Int32).toInt = 0 := (by decide); omega)), (show 0 + 0 ≤ PS ws + (0) from (by have e0 : (0 : Int32).toInt = 0 := (by decide); omega))⟩) hS (fun q _ h => hFc q h) hFc (fun  ws_200 t9 H1 locs ht9 hvm9 hw9 hB9 hz9 hk9 hS => ?_)
    obtain ⟨E_201, Fr_202, hG, hP1, hD1⟩ := hB9
    have hP : va_P (gD g) cl0 ws_200 H1 := by rw [← ht9]; exact hP1
    have hD : va_D A ws_200 := hD1.weaken (fun _ _ _ h => hFc _ h)
    obtain ⟨hw9, xp_205, xp_206, xp_207, xp_208, xp_209, xp_210⟩ := hw9
    clear hP1 hD1 hz9 hk9 hvm9 ht9 hw9
    generalize H1 = H at hP hS ⊢
    have aa_211 := a_r1_195
    have aa_212 := a_r2_195
    have aa_213 := a_r4_195
    have aa_214 := a_r6_195
    have aa_215 := a_r8_195
    have aa_216 := a_r9_195
    have aa_217 := a_r10_195
    have o_h0 := E_201.1 _ _ o_h0
    have pp_218 := Fr_202.pp
    obtain ⟨fs9, hk_219, hq_219⟩ := ((gF.a (F' := [(5, 11), (5, 12), (5, 13), (5, 14), (5, 15), (5, 17), (5, 19)]) Fr_202 (fun _ h => h))) _ _ _ hk_195
    obtain ⟨v0_219, r1_219, n1_219, r2_219, n2_219, c3_219, r4_219, n4_219, c5_219, r6_219, n6_219, c7_219, r8_219, n8_219, r9_219, n9_219, r10_219, n10_219, c11_219, v12_219, c13_219, c14_219, c15_219, l16_219, c17_219, c18_219, c19_219, rfl, o_v0_219, F_v0_219, a_r1_219, f3_219, a_r2_219, f5_219, a_r4_219, f7_219, a_r6_219, f9_219, a_r8_219, f11_219, a_r9_219, f13_219, a_r10_219, f15_219, o_v12_219, f17_219, f18_219, f19_219, f20_219, f21_219, f22_219, f23_219, f24_219, f25_219, f26_219, f27_219, f28_219, f29_219, f30_219, f31_219, -⟩ := (hG.1 _ _ _ _ hk_219).hX5 rfl
    have hn9 := fe_qr (hq_219 0 (by decide))
    subst hn9
    have o_b_2 := o_v0_219 _ rfl
    have F_b_2 := F_v0_219 _ rfl
    obtain ⟨b_220, hn9⟩ := xp_206 _ _ _ hk_219
    have hn9 := fe_qr hn9
    subst hn9
    have o_b_220 := o_v12_219 _ rfl
    refine lv_goto (tgt := 218) hx hb dX5_useStage_187 (by decide) ?_
    exact J_218 (0) (0) ws_200 H locs ls ((E_183.tr E_201)) ((gF.tr (gF.mo (F' := [(5, 2), (5, 3), (5, 4), (5, 5), (5, 11), (5, 12), (5, 13), (5, 14), (5, 15), (5, 17), (5, 19)]) (C' := [(5, 1), (5, 2), (5, 4), (5, 8), (5, 9), (5, 10)]) (S' := none) Fr_184 (by decide) (fun _ h => absurd h List.not_mem_nil) (Or.inr rfl)) (gF.mo (F' := [(5, 2), (5, 3), (5, 4), (5, 5), (5, 11), (5, 12), (5, 13), (5, 14), (5, 15), (5, 17), (5, 19)]) (C' := [(5, 1), (5, 2), (5, 4), (5, 8), (5, 9), (5, 10)]) (S' := none) Fr_202 (by decide) (by decide) (Or.inr rfl)))) hG (by have e0 : (0 : Int32).toInt = 0 := (by decide); omega) (by have e0 : (0 : Int32).toInt = 0 := (by decide); omega) xp_207 xp_208 xp_209 xp_210 (gN_of hD hk_219 (j := 12) rfl) hP hD hS (lv_sub hl [] rfl)
  have K_14_156 : W p l e (headSpec (wt yX5_useStage cX5_useStage 3 none) ({ frames := 4, cells := PC ws + (0), slots := PS ws + (0), locals := 92 })).room s m ([.ref h0, .int x1] : List Value).toArray below meth c H locs (0) (0) (MQ below (va_Qv (fun (u9 : va_W) => (True) ∧ (gN u9 h0 0) ∧ (gN u9 h0 12) ∧ (frP g u9 h0) ∧ (swU u9 h0) ∧ (swC u9 h0) ∧ (arP g u9 h0)) (gQ2 g [(5, 2), (5, 3), (5, 4), (5, 5), (5, 11), (5, 12), (5, 13), (5, 14), (5, 15), (5, 17), (5, 19)] [(5, 1), (5, 2), (5, 4), (5, 8), (5, 9), (5, 10)] none A ws s.heap (0) (0)) A) ([.ref h0, .int x1] : List Value).toArray s (PC ws + (0)) (PS ws + (0)) A) (F0 m 156 ls []) := by
    refine lv_aload_n hx hb dX5_useStage_156 rfl (lv_at hl 1 rfl) ?_
    refine lv_aload_n hx hb dX5_useStage_157 rfl (lv_at hl 1 rfl) ?_
    have hFc := gfree hD hS hA
    refine va_calll (va_runV (As := []) (rest := [.ref h0]) ⟨hx, hb, hml, hown, hts⟩ (m_X5_pop l g H.size ws h0 hG o_h0) (cwV 0 hts (gd_V kw_1080 kw_1124 kw_1125 kw_398 kw_1123) rfl rfl rfl (by decide +kernel) ⟨Nat.le_of_ble_eq_true rfl, Nat.le_of_ble_eq_true rfl⟩) ⟨gblind, va_recv hK hP (ci := 5) (q0 := k_1) rfl hk_1, fun U hU hW9 => gmk hU hW9 hP hK hD hex hE hS hFc⟩ rfl rfl hl.1 rfl (lv_room (Nat.le_of_ble_eq_true rfl)) dX5_useStage_158 ⟨(show 0 + 0 ≤ PC ws + (0) from (by have e0 : (0 : Int32).toInt = 0 := (by decide); omega)), (show 0 + 0 ≤ PS ws + (0) from (by have e0 : (0 : Int32).toInt = 0 := (by decide); omega))⟩) hS (fun q _ h => hFc q h) hFc (fun r_221 ws_222 t9 H1 locs ht9 hvm9 hw9 hB9 hz9 hk9 hS => ?_)
    obtain ⟨E_223, Fr_224, hG, hP1, hD1⟩ := hB9
    have hP : va_P (gD g) cl0 ws_222 H1 := by rw [← ht9]; exact hP1
    have hD : va_D A ws_222 := hD1.weaken (fun _ _ _ h => hFc _ h)
    clear hP1 hD1 hz9 hk9 hvm9 ht9 hw9
    generalize H1 = H at hP hS ⊢
    have aa_227 := a_r1_1
    have aa_228 := a_r2_1
    have aa_229 := a_r4_1
    have aa_230 := a_r6_1
    have aa_231 := a_r8_1
    have aa_232 := a_r9_1
    have aa_233 := a_r10_1
    have o_h0 := E_223.1 _ _ o_h0
    have pp_234 := Fr_224.pp
    obtain ⟨fs9, hk_235, hq_235⟩ := ((gF.a (F' := [(5, 14), (5, 19)]) Fr_224 (fun _ h => h))) _ _ _ hk_1
    obtain ⟨v0_235, r1_235, n1_235, r2_235, n2_235, c3_235, r4_235, n4_235, c5_235, r6_235, n6_235, c7_235, r8_235, n8_235, r9_235, n9_235, r10_235, n10_235, c11_235, v12_235, c13_235, c14_235, c15_235, l16_235, c17_235, c18_235, c19_235, rfl, o_v0_235, F_v0_235, a_r1_235, f3_235, a_r2_235, f5_235, a_r4_235, f7_235, a_r6_235, f9_235, a_r8_235, f11_235, a_r9_235, f13_235, a_r10_235, f15_235, o_v12_235, f17_235, f18_235, f19_235, f20_235, f21_235, f22_235, f23_235, f24_235, f25_235, f26_235, f27_235, f28_235, f29_235, f30_235, f31_235, -⟩ := (hG.1 _ _ _ _ hk_235).hX5 rfl
    have hn9 := fe_qr (hq_235 0 (by decide))
    subst hn9
    have o_b_2 := o_v0_235 _ rfl
    have F_b_2 := F_v0_235 _ rfl
    have hn9 := fe_qr (hq_235 12 (by decide))
    subst hn9
    have o_b_3 := o_v12_235 _ rfl
    obtain rfl := fe_i (hq_235 13 (by decide))
    have tq_236 : frP g ws_222 h0 := frP_mo (Fr_224) (by decide) (by decide) (by decide) (by decide) (by decide) tk0
    have tq_237 : swU ws_222 h0 := swU_mo (Fr_224) (by decide) (by decide) (by decide) (by decide) (by decide) (by decide) (by decide) (by decide) (by decide) (by decide) (by decide) tk1
    have tq_238 : swC ws_222 h0 := swC_mo (Fr_224) (by decide) (by decide) (by decide) (by decide) (by decide) (by decide) (by decide) (by decide) (by decide) tk2
    have tq_239 : arP g ws_222 h0 := arP_mo (Fr_224) (E_223) (by decide) (by decide) tk3
    have hFc := gfree hD hS hA
    refine va_callv (va_runV (As := [.long r_221]) (rest := []) ⟨hx, hb, hml, hown, hts⟩ (m_X5_throwIt l g H.size ws_222 h0 (r_221) hG o_h0 (gN_of hD hk_235 (j := 0) rfl) (gN_of hD hk_235 (j := 12) rfl) tq_236 tq_237 tq_238 tq_239) (cwV 1 hts (gd_V kw_1201 kw_1187 kw_1188 kw_398 kw_1186) rfl rfl rfl (by decide +kernel) ⟨Nat.le_of_ble_eq_true rfl, Nat.le_of_ble_eq_true rfl⟩) ⟨gblind, va_recv hK hP (ci := 5) (q0 := k_1) rfl hk_235, fun U hU hW9 => gmk hU hW9 hP hK hD hex hE hS hFc⟩ rfl rfl hl.1 rfl (lv_room (Nat.le_of_ble_eq_true rfl)) dX5_useStage_161 ⟨(show 0 + 0 ≤ PC ws + (0) from (by have e0 : (0 : Int32).toInt = 0 := (by decide); omega)), (show 0 + 0 ≤ PS ws + (0) from (by have e0 : (0 : Int32).toInt = 0 := (by decide); omega))⟩) hS (fun q _ h => hFc q h) hFc (fun  ws_240 t9 H1 locs ht9 hvm9 hw9 hB9 hz9 hk9 hS => ?_)
    obtain ⟨E_241, Fr_242, hG, hP1, hD1⟩ := hB9
    have hP : va_P (gD g) cl0 ws_240 H1 := by rw [← ht9]; exact hP1
    have hD : va_D A ws_240 := hD1.weaken (fun _ _ _ h => hFc _ h)
    obtain ⟨hw9, xp_245, xp_246, xp_247, xp_248, xp_249, xp_250⟩ := hw9
    clear hP1 hD1 hz9 hk9 hvm9 ht9 hw9
    generalize H1 = H at hP hS ⊢
    have aa_251 := a_r1_235
    have aa_252 := a_r2_235
    have aa_253 := a_r4_235
    have aa_254 := a_r6_235
    have aa_255 := a_r8_235
    have aa_256 := a_r9_235
    have aa_257 := a_r10_235
    have o_h0 := E_241.1 _ _ o_h0
    have pp_258 := Fr_242.pp
    obtain ⟨fs9, hk_259, hq_259⟩ := ((gF.a (F' := [(5, 11), (5, 12), (5, 13), (5, 14), (5, 15), (5, 17), (5, 19)]) Fr_242 (fun _ h => h))) _ _ _ hk_235
    obtain ⟨v0_259, r1_259, n1_259, r2_259, n2_259, c3_259, r4_259, n4_259, c5_259, r6_259, n6_259, c7_259, r8_259, n8_259, r9_259, n9_259, r10_259, n10_259, c11_259, v12_259, c13_259, c14_259, c15_259, l16_259, c17_259, c18_259, c19_259, rfl, o_v0_259, F_v0_259, a_r1_259, f3_259, a_r2_259, f5_259, a_r4_259, f7_259, a_r6_259, f9_259, a_r8_259, f11_259, a_r9_259, f13_259, a_r10_259, f15_259, o_v12_259, f17_259, f18_259, f19_259, f20_259, f21_259, f22_259, f23_259, f24_259, f25_259, f26_259, f27_259, f28_259, f29_259, f30_259, f31_259, -⟩ := (hG.1 _ _ _ _ hk_259).hX5 rfl
    have hn9 := fe_qr (hq_259 0 (by decide))
    subst hn9
    have o_b_2 := o_v0_259 _ rfl
    have F_b_2 := F_v0_259 _ rfl
    obtain ⟨b_260, hn9⟩ := xp_246 _ _ _ hk_259
    have hn9 := fe_qr hn9
    subst hn9
    have o_b_260 := o_v12_259 _ rfl
    refine lv_goto (tgt := 218) hx hb dX5_useStage_164 (by decide) ?_
    exact J_218 (0) (0) ws_240 H locs ls ((E_223.tr E_241)) ((gF.tr (gF.mo (F' := [(5, 2), (5, 3), (5, 4), (5, 5), (5, 11), (5, 12), (5, 13), (5, 14), (5, 15), (5, 17), (5, 19)]) (C' := [(5, 1), (5, 2), (5, 4), (5, 8), (5, 9), (5, 10)]) (S' := none) Fr_224 (by decide) (fun _ h => absurd h List.not_mem_nil) (Or.inr rfl)) (gF.mo (F' := [(5, 2), (5, 3), (5, 4), (5, 5), (5, 11), (5, 12), (5, 13), (5, 14), (5, 15), (5, 17), (5, 19)]) (C' := [(5, 1), (5, 2), (5, 4), (5, 8), (5, 9), (5, 10)]) (S' := none) Fr_242 (by decide) (by decide) (Or.inr rfl)))) hG (by have e0 : (0 : Int32).toInt = 0 := (by decide); omega) (by have e0 : (0 : Int32).toInt = 0 := (by decide); omega) xp_247 xp_248 xp_249 xp_250 (gN_of hD hk_259 (j := 12) rfl) hP hD hS (lv_sub hl [] rfl)
  by_cases c9_46 : (x1 : Int32).toInt = 46
  · exact lv_lookup (off := 176) (tgt := 190) hx hb dX5_useStage_14 (by decide) (by rw [c9_46]; decide) (by decide) K_14_190
  by_cases c9_79 : (x1 : Int32).toInt = 79
  · exact lv_lookup (off := 176) (tgt := 190) hx hb dX5_useStage_14 (by decide) (by rw [c9_79]; decide) (by decide) K_14_190
  by_cases c9_178 : (x1 : Int32).toInt = 178
  · exact lv_lookup (off := 74) (tgt := 88) hx hb dX5_useStage_14 (by decide) (by rw [c9_178]; decide) (by decide) K_14_88
  by_cases c9_179 : (x1 : Int32).toInt = 179
  · exact lv_lookup (off := 104) (tgt := 118) hx hb dX5_useStage_14 (by decide) (by rw [c9_179]; decide) (by decide) K_14_118
  by_cases c9_184 : (x1 : Int32).toInt = 184
  · exact lv_lookup (off := 134) (tgt := 148) hx hb dX5_useStage_14 (by decide) (by rw [c9_184]; decide) (by decide) K_14_148
  by_cases c9_188 : (x1 : Int32).toInt = 188
  · exact lv_lookup (off := 153) (tgt := 167) hx hb dX5_useStage_14 (by decide) (by rw [c9_188]; decide) (by decide) K_14_167
  by_cases c9_190 : (x1 : Int32).toInt = 190
  · exact lv_lookup (off := 165) (tgt := 179) hx hb dX5_useStage_14 (by decide) (by rw [c9_190]; decide) (by decide) K_14_179
  by_cases c9_191 : (x1 : Int32).toInt = 191
  · exact lv_lookup (off := 142) (tgt := 156) hx hb dX5_useStage_14 (by decide) (by rw [c9_191]; decide) (by decide) K_14_156
  exact lv_lookup (off := 184) (tgt := 198) hx hb dX5_useStage_14 (by decide) (lk_cons c9_46 (lk_cons c9_79 (lk_cons c9_178 (lk_cons c9_179 (lk_cons c9_184 (lk_cons c9_188 (lk_cons c9_190 (lk_cons c9_191 lk_nil)))))))) (by decide) K_14_198
