set_option maxHeartbeats 1000000 in
set_option maxRecDepth 100000 in
theorem m_X5_step (l : Launch) (g : Gm) (H0 : Heap) (ws : va_W) (h0 : Nat) (hG : Good g ws) (o_h0 : gC ws h0 5) (nn_h0_0 : gN ws h0 0) (nn_h0_12 : gN ws h0 12) (tk0 : frP g ws h0) (tk1 : swU ws h0) (tk2 : swC ws h0) (tk3 : arP g ws h0) : Met l yX5_step (wt yX5_step cX5_step 2 none) ({ frames := 5, cells := PC ws + (0), slots := PS ws + (0), locals := 114 }) (va_Pc [.ref h0] (st_H g H0 ws)) (va_Qv (fun (u9 : va_W) => (True) ∧ (gN u9 h0 0) ∧ (gN u9 h0 12) ∧ (frP g u9 h0) ∧ (swU u9 h0) ∧ (swC u9 h0) ∧ (arP g u9 h0)) (gQ2 g [(5, 2), (5, 3), (5, 4), (5, 5), (5, 11), (5, 12), (5, 13), (5, 14), (5, 15), (5, 16), (5, 17), (5, 19)] [(5, 1), (5, 2), (5, 4), (5, 8), (5, 9), (5, 10)] none (va_A ws H0.size) ws H0 (0) (0)) (va_A ws H0.size)) (PC ws + (0)) (PS ws + (0)) (va_A ws H0.size) := by
  refine Met.ofW (cc := cX5_step) (maxL := 2) (ret := none) (by decide) rfl ?_
  intro p e s m args below meth c s₁ B hml hv
  obtain ⟨rfl, hH0, hsz, hP, hK, hD0, hex, hE⟩ := hv
  have hx := B.exec
  have hb := B.bytes
  have hr := B.returns
  have hts0 := atoms_spec (ws := wt yX5_step cX5_step 2 none) B.pre
  have hts : ∀ w ∈ tb, w.before _ s = true := fun w h => hts0 w (List.mem_cons_of_mem _ h)
  have hown : s.vm.findClass RX5 = some m.cls := findClass_of_methodNamed B.named
  subst hH0
  have hD := hD0.self (sz := s.heap.size)
  generalize hAe : va_A ws s.heap.size = A at hD hE ⊢
  have hA : ∀ q : Nat, s.heap.size ≤ q → A q := fun q h => by rw [← hAe]; exact Or.inr h
  have hS : va_S A s.heap s.heap [] := va_S.rf
  have hl := lv_entry ([.ref h0]) (n := 2) (Nat.le_of_ble_eq_true rfl)
  rw [lg_entry_eq]
  generalize (lg_sl ([.ref h0]) ++ List.replicate (2 - (lg_sl ([.ref h0])).length) Slot.unset).toArray = ls at hl ⊢
  have hl : lv_has ls 2 [(0, .ref h0)] := hl
  obtain ⟨k_1, fs9, hk_1⟩ := gC_of o_h0
  obtain ⟨v0_1, r1_1, n1_1, r2_1, n2_1, c3_1, r4_1, n4_1, c5_1, r6_1, n6_1, c7_1, r8_1, n8_1, r9_1, n9_1, r10_1, n10_1, c11_1, v12_1, c13_1, c14_1, c15_1, l16_1, c17_1, c18_1, c19_1, rfl, o_v0_1, F_v0_1, a_r1_1, f3_1, a_r2_1, f5_1, a_r4_1, f7_1, a_r6_1, f9_1, a_r8_1, f11_1, a_r9_1, f13_1, a_r10_1, f15_1, o_v12_1, f17_1, f18_1, f19_1, f20_1, f21_1, f22_1, f23_1, f24_1, f25_1, f26_1, f27_1, f28_1, f29_1, f30_1, f31_1, -⟩ := (hG.1 _ _ _ _ hk_1).hX5 rfl
  obtain ⟨b_2, hn9⟩ := nn_h0_0 _ _ _ hk_1
  have hn9 := fe_qr hn9
  subst hn9
  have o_b_2 := o_v0_1 _ rfl
  have F_b_2 := F_v0_1 _ rfl
  obtain ⟨b_3, hn9⟩ := nn_h0_12 _ _ _ hk_1
  have hn9 := fe_qr hn9
  subst hn9
  have o_b_3 := o_v12_1 _ rfl
  refine lv_aload_n hx hb dX5_step_0 rfl (lv_at hl 0 rfl) ?_
  refine va_get (D := gD g) (ci := 5) (v := .ref b_3) (C := RX5) (T := TX5) (N := 20) hx hb hts inX5 hown hK hP k_1 hk_1 rfl 12 (by decide) (hts _ kw_1030) (fun _ h9 => h9) rfl dX5_step_1 ?_
  refine lv_aload_n hx hb dX5_step_4 rfl (lv_at hl 0 rfl) ?_
  refine va_get (D := gD g) (ci := 5) (v := .int c13_1) (C := RX5) (T := TX5) (N := 20) hx hb hts inX5 hown hK hP k_1 hk_1 rfl 13 (by decide) (hts _ kw_1021) (fun _ h9 => h9) rfl dX5_step_5 ?_
  have hFc := gfree hD hS hA
  obtain ⟨k_4, fs_4, hk_4⟩ := gC_of o_b_3
  refine va_calli (va_runV (As := [.int c13_1]) (rest := []) ⟨hx, hb, hml, hown, hts⟩ (m_X8_opAt_x l g s.heap.size ws b_3 (c13_1) hG o_b_3) (cwV 1 hts (gd_V kw_1163 kw_1513 kw_1514 kw_782 kw_1512) rfl rfl rfl (by decide +kernel) ⟨Nat.le_of_ble_eq_true rfl, Nat.le_of_ble_eq_true rfl⟩) ⟨gblind, va_recv hK hP (ci := 7) (q0 := k_4) rfl hk_4, fun U hU hW9 => gmk hU hW9 hP hK hD hex hE hS hFc⟩ rfl rfl hl.1 rfl (lv_room (Nat.le_of_ble_eq_true rfl)) dX5_step_8 ⟨(show 0 + 0 ≤ PC ws + (0) from (by have e0 : (0 : Int32).toInt = 0 := (by decide); omega)), (show 0 + 0 ≤ PS ws + (0) from (by have e0 : (0 : Int32).toInt = 0 := (by decide); omega))⟩) hS (fun q _ h => hFc q h) hFc (fun r_5 u9 t9 H1 locs ht9 hvm9 hw9 hB9 hz9 hk9 hS => ?_)
  have hP : va_P (gD g) cl0 ws H1 := by rw [← ht9]; exact hB9.1
  obtain ⟨hw9, xp_6⟩ := hw9
  clear hB9 hz9 hk9 hvm9 ht9 hw9
  generalize H1 = H at hP hS ⊢
  refine lv_istore_n (lv' := [(1, .int r_5), (0, .ref h0)]) hx hb dX5_step_11 rfl hl (by decide) rfl (fun ls hl => ?_)
  refine lv_aload_n hx hb dX5_step_12 rfl (lv_at hl 1 rfl) ?_
  refine va_get (D := gD g) (ci := 5) (v := .ref b_3) (C := RX5) (T := TX5) (N := 20) hx hb hts inX5 hown hK hP k_1 hk_1 rfl 12 (by decide) (hts _ kw_1030) (fun _ h9 => h9) rfl dX5_step_13 ?_
  refine lv_aload_n hx hb dX5_step_16 rfl (lv_at hl 1 rfl) ?_
  refine va_get (D := gD g) (ci := 5) (v := .int c13_1) (C := RX5) (T := TX5) (N := 20) hx hb hts inX5 hown hK hP k_1 hk_1 rfl 13 (by decide) (hts _ kw_1021) (fun _ h9 => h9) rfl dX5_step_17 ?_
  have hFc := gfree hD hS hA
  obtain ⟨k_7, fs_7, hk_7⟩ := gC_of o_b_3
  refine va_calli (va_runV (As := [.int c13_1]) (rest := []) ⟨hx, hb, hml, hown, hts⟩ (m_X8_heightAt l g H.size ws b_3 (c13_1) hG o_b_3) (cwV 1 hts (gd_V kw_1164 kw_1493 kw_1494 kw_782 kw_1492) rfl rfl rfl (by decide +kernel) ⟨Nat.le_of_ble_eq_true rfl, Nat.le_of_ble_eq_true rfl⟩) ⟨gblind, va_recv hK hP (ci := 7) (q0 := k_7) rfl hk_7, fun U hU hW9 => gmk hU hW9 hP hK hD hex hE hS hFc⟩ rfl rfl hl.1 rfl (lv_room (Nat.le_of_ble_eq_true rfl)) dX5_step_20 ⟨(show 0 + 0 ≤ PC ws + (0) from (by have e0 : (0 : Int32).toInt = 0 := (by decide); omega)), (show 0 + 0 ≤ PS ws + (0) from (by have e0 : (0 : Int32).toInt = 0 := (by decide); omega))⟩) hS (fun q _ h => hFc q h) hFc (fun r_8 u9 t9 H1 locs ht9 hvm9 hw9 hB9 hz9 hk9 hS => ?_)
  have hP : va_P (gD g) cl0 ws H1 := by rw [← ht9]; exact hB9.1
  clear hB9 hz9 hk9 hvm9 ht9 hw9
  generalize H1 = H at hP hS ⊢
  refine lv_aload_n hx hb dX5_step_23 rfl (lv_at hl 1 rfl) ?_
  refine va_get (D := gD g) (ci := 5) (v := .int c14_1) (C := RX5) (T := TX5) (N := 20) hx hb hts inX5 hown hK hP k_1 hk_1 rfl 14 (by decide) (hts _ kw_1031) (fun _ h9 => h9) rfl dX5_step_24 ?_
  have J_40 : ∀ (dc_40_1 : Nat) (ds_40_1 : Nat) (ws_9 : va_W) (H : Heap) (locs : List Loc) (ls : Array Slot), gE ws ws_9 → gF [(5, 19)] [] none ws ws_9 → Good g ws_9 → dc_40_1 + PC ws_9 ≤ PC ws + (0) → ds_40_1 + PS ws_9 ≤ PS ws + (0) → va_P (gD g) cl0 ws_9 H → va_D A ws_9 → va_S A s.heap H locs → lv_has ls 2 [(0, .ref h0), (1, .int r_5)] → W p l e (headSpec (wt yX5_step cX5_step 2 none) ({ frames := 5, cells := PC ws + (0), slots := PS ws + (0), locals := 114 })).room s m ([.ref h0] : List Value).toArray below meth c H locs (dc_40_1) (ds_40_1) (MQ below (va_Qv (fun (u9 : va_W) => (True) ∧ (gN u9 h0 0) ∧ (gN u9 h0 12) ∧ (frP g u9 h0) ∧ (swU u9 h0) ∧ (swC u9 h0) ∧ (arP g u9 h0)) (gQ2 g [(5, 2), (5, 3), (5, 4), (5, 5), (5, 11), (5, 12), (5, 13), (5, 14), (5, 15), (5, 16), (5, 17), (5, 19)] [(5, 1), (5, 2), (5, 4), (5, 8), (5, 9), (5, 10)] none A ws s.heap (0) (0)) A) ([.ref h0] : List Value).toArray s (PC ws + (0)) (PS ws + (0)) A) (F0 m 40 ls []) := by
    intro dc_40_1 ds_40_1 ws_9 H locs ls  E_10 Fr_11 hG hc9 hs9 hP hD hS hl
    have aa_12 := a_r1_1
    have aa_13 := a_r2_1
    have aa_14 := a_r4_1
    have aa_15 := a_r6_1
    have aa_16 := a_r8_1
    have aa_17 := a_r9_1
    have aa_18 := a_r10_1
    have o_h0 := E_10.1 _ _ o_h0
    refine lv_iload_n hx hb dX5_step_40 rfl (lv_at hl 1 rfl) ?_
    have hFc := gfree hD hS hA
    refine va_calli (va_runS (As := [.int r_5]) (rest := []) ⟨hx, hb, hml, hown, hts⟩ (m_X6_isBinary l g H.size ws_9 (r_5) hG ) (va_cwS 1 hts (gd_S kw_1165 kw_1221 kw_1207 kw_1220) rfl rfl rfl (by decide +kernel) ⟨Nat.le_of_ble_eq_true rfl, Nat.le_of_ble_eq_true rfl⟩) ⟨gblind, fun U hU hW9 => gmk hU hW9 hP hK hD hex hE hS hFc⟩ rfl rfl hl.1 rfl (lv_room (Nat.le_of_ble_eq_true rfl)) dX5_step_41 ⟨(show dc_40_1 + 0 ≤ PC ws + (0) from (by omega)), (show ds_40_1 + 0 ≤ PS ws + (0) from (by omega))⟩) hS (fun q _ h => hFc q h) hFc (fun r_19 u9 t9 H1 locs ht9 hvm9 hw9 hB9 hz9 hk9 hS => ?_)
    have hP : va_P (gD g) cl0 ws_9 H1 := by rw [← ht9]; exact hB9.1
    have hz_r_19 : r_19 = 0 ∨ r_19 = 1 := hw9
    clear hB9 hz9 hk9 hvm9 ht9 hw9
    generalize H1 = H at hP hS ⊢
    have J_267 : ∀ (dc_267_2 : Nat) (ds_267_2 : Nat) (ws_20 : va_W) (H : Heap) (locs : List Loc) (ls : Array Slot), gE ws_9 ws_20 → gF [(5, 2), (5, 3), (5, 4), (5, 5), (5, 11), (5, 12), (5, 13), (5, 14), (5, 15), (5, 16), (5, 17), (5, 19)] [(5, 1), (5, 2), (5, 4), (5, 8), (5, 9), (5, 10)] none ws_9 ws_20 → Good g ws_20 → dc_267_2 + PC ws_20 ≤ PC ws + (0) → ds_267_2 + PS ws_20 ≤ PS ws + (0) → frP g ws_20 h0 → swU ws_20 h0 → swC ws_20 h0 → arP g ws_20 h0 → gN ws_20 h0 12 → va_P (gD g) cl0 ws_20 H → va_D A ws_20 → va_S A s.heap H locs → lv_has ls 2 [] → W p l e (headSpec (wt yX5_step cX5_step 2 none) ({ frames := 5, cells := PC ws + (0), slots := PS ws + (0), locals := 114 })).room s m ([.ref h0] : List Value).toArray below meth c H locs (dc_267_2) (ds_267_2) (MQ below (va_Qv (fun (u9 : va_W) => (True) ∧ (gN u9 h0 0) ∧ (gN u9 h0 12) ∧ (frP g u9 h0) ∧ (swU u9 h0) ∧ (swC u9 h0) ∧ (arP g u9 h0)) (gQ2 g [(5, 2), (5, 3), (5, 4), (5, 5), (5, 11), (5, 12), (5, 13), (5, 14), (5, 15), (5, 16), (5, 17), (5, 19)] [(5, 1), (5, 2), (5, 4), (5, 8), (5, 9), (5, 10)] none A ws s.heap (0) (0)) A) ([.ref h0] : List Value).toArray s (PC ws + (0)) (PS ws + (0)) A) (F0 m 267 ls []) := by
      intro dc_267_2 ds_267_2 ws_20 H locs ls  E_21 Fr_22 hG hc9 hs9 jx_267_0 jx_267_1 jx_267_2 jx_267_3 jx_267_4 hP hD hS hl
      have o_h0 := E_21.1 _ _ o_h0
      refine W_led (fun hLd => ?_)
      have hcl : dc_267_2 + PC ws_20 ≤ PC ws + (0) := (by omega)
      have hsl : ds_267_2 + PS ws_20 ≤ PS ws + (0) := (by omega)
      refine W.widen (k := PC ws + (0)) (n := PS ws + (0)) (by omega) (by omega) ?_
      obtain ⟨fs9, hk_23, hq_23⟩ := ((gA.tr (gF.a (F' := [(5, 2), (5, 3), (5, 4), (5, 5), (5, 11), (5, 12), (5, 13), (5, 14), (5, 15), (5, 16), (5, 17), (5, 19)]) Fr_11 (by decide)) (gF.a (F' := [(5, 2), (5, 3), (5, 4), (5, 5), (5, 11), (5, 12), (5, 13), (5, 14), (5, 15), (5, 16), (5, 17), (5, 19)]) Fr_22 (fun _ h => h)))) _ _ _ hk_1
      obtain ⟨v0_23, r1_23, n1_23, r2_23, n2_23, c3_23, r4_23, n4_23, c5_23, r6_23, n6_23, c7_23, r8_23, n8_23, r9_23, n9_23, r10_23, n10_23, c11_23, v12_23, c13_23, c14_23, c15_23, l16_23, c17_23, c18_23, c19_23, rfl, o_v0_23, F_v0_23, a_r1_23, f3_23, a_r2_23, f5_23, a_r4_23, f7_23, a_r6_23, f9_23, a_r8_23, f11_23, a_r9_23, f13_23, a_r10_23, f15_23, o_v12_23, f17_23, f18_23, f19_23, f20_23, f21_23, f22_23, f23_23, f24_23, f25_23, f26_23, f27_23, f28_23, f29_23, f30_23, f31_23, -⟩ := (hG.1 _ _ _ _ hk_23).hX5 rfl
      have hn9 := fe_qr (hq_23 0 (by decide))
      subst hn9
      have o_b_2 := o_v0_23 _ rfl
      have F_b_2 := F_v0_23 _ rfl
      obtain ⟨b_24, hn9⟩ := jx_267_4 _ _ _ hk_23
      have hn9 := fe_qr hn9
      subst hn9
      have o_b_24 := o_v12_23 _ rfl
      exact W.vret hx hb hr (fun t9 ht9 hW9 => ⟨⟨ws_20, rfl, ⟨trivial, (gN_of hD hk_23 (j := 0) rfl), (gN_of hD hk_23 (j := 12) rfl), jx_267_0, jx_267_1, jx_267_2, jx_267_3⟩, ⟨(E_10.tr E_21), (gF.tr (gF.mo (F' := [(5, 2), (5, 3), (5, 4), (5, 5), (5, 11), (5, 12), (5, 13), (5, 14), (5, 15), (5, 16), (5, 17), (5, 19)]) (C' := [(5, 1), (5, 2), (5, 4), (5, 8), (5, 9), (5, 10)]) (S' := none) Fr_11 (by decide) (fun _ h => absurd h List.not_mem_nil) (Or.inr rfl)) Fr_22), hG, by rw [ht9]; exact hP, hD, _, _, by rw [ht9]; exact hLd, hcl, hsl⟩⟩, hS.F ht9⟩) hS.2.2 dX5_step_267
    refine lv_if_eq (tgt := 55) hx hb dX5_step_44 (by decide) (fun c_25 => ?_) (fun c_25 => ?_)
    · refine lv_iload_n hx hb dX5_step_55 rfl (lv_at hl 1 rfl) ?_
      have hFc := gfree hD hS hA
      refine va_calli (va_runS (As := [.int r_5]) (rest := []) ⟨hx, hb, hml, hown, hts⟩ (m_X6_isUnary l g H.size ws_9 (r_5) hG ) (va_cwS 1 hts (gd_S kw_1167 kw_1237 kw_1207 kw_1236) rfl rfl rfl (by decide +kernel) ⟨Nat.le_of_ble_eq_true rfl, Nat.le_of_ble_eq_true rfl⟩) ⟨gblind, fun U hU hW9 => gmk hU hW9 hP hK hD hex hE hS hFc⟩ rfl rfl hl.1 rfl (lv_room (Nat.le_of_ble_eq_true rfl)) dX5_step_56 ⟨(show dc_40_1 + 0 ≤ PC ws + (0) from (by omega)), (show ds_40_1 + 0 ≤ PS ws + (0) from (by omega))⟩) hS (fun q _ h => hFc q h) hFc (fun r_26 u9 t9 H1 locs ht9 hvm9 hw9 hB9 hz9 hk9 hS => ?_)
      have hP : va_P (gD g) cl0 ws_9 H1 := by rw [← ht9]; exact hB9.1
      have hz_r_26 : r_26 = 0 ∨ r_26 = 1 := hw9
      clear hB9 hz9 hk9 hvm9 ht9 hw9
      generalize H1 = H at hP hS ⊢
      refine lv_if_eq (tgt := 95) hx hb dX5_step_59 (by decide) (fun c_27 => ?_) (fun c_27 => ?_)
      · refine lv_iload_n hx hb dX5_step_95 rfl (lv_at hl 1 rfl) ?_
        have hFc := gfree hD hS hA
        refine va_calli (va_runS (As := [.int r_5]) (rest := []) ⟨hx, hb, hml, hown, hts⟩ (m_X6_isJump l g H.size ws_9 (r_5) hG ) (va_cwS 1 hts (gd_S kw_1169 kw_1225 kw_1207 kw_1224) rfl rfl rfl (by decide +kernel) ⟨Nat.le_of_ble_eq_true rfl, Nat.le_of_ble_eq_true rfl⟩) ⟨gblind, fun U hU hW9 => gmk hU hW9 hP hK hD hex hE hS hFc⟩ rfl rfl hl.1 rfl (lv_room (Nat.le_of_ble_eq_true rfl)) dX5_step_96 ⟨(show dc_40_1 + 0 ≤ PC ws + (0) from (by omega)), (show ds_40_1 + 0 ≤ PS ws + (0) from (by omega))⟩) hS (fun q _ h => hFc q h) hFc (fun r_28 u9 t9 H1 locs ht9 hvm9 hw9 hB9 hz9 hk9 hS => ?_)
        have hP : va_P (gD g) cl0 ws_9 H1 := by rw [← ht9]; exact hB9.1
        have hz_r_28 : r_28 = 0 ∨ r_28 = 1 := hw9
        clear hB9 hz9 hk9 hvm9 ht9 hw9
        generalize H1 = H at hP hS ⊢
        refine lv_if_eq (tgt := 138) hx hb dX5_step_99 (by decide) (fun c_29 => ?_) (fun c_29 => ?_)
        · refine lv_iload_n hx hb dX5_step_138 rfl (lv_at hl 1 rfl) ?_
          have hFc := gfree hD hS hA
          refine va_calli (va_runS (As := [.int r_5]) (rest := []) ⟨hx, hb, hml, hown, hts⟩ (m_X6_isSwitch_x l g H.size ws_9 (r_5) hG ) (va_cwS 1 hts (gd_S kw_1171 kw_1233 kw_1207 kw_1232) rfl rfl rfl (by decide +kernel) ⟨Nat.le_of_ble_eq_true rfl, Nat.le_of_ble_eq_true rfl⟩) ⟨gblind, fun U hU hW9 => gmk hU hW9 hP hK hD hex hE hS hFc⟩ rfl rfl hl.1 rfl (lv_room (Nat.le_of_ble_eq_true rfl)) dX5_step_139 ⟨(show dc_40_1 + 0 ≤ PC ws + (0) from (by omega)), (show ds_40_1 + 0 ≤ PS ws + (0) from (by omega))⟩) hS (fun q _ h => hFc q h) hFc (fun r_30 u9 t9 H1 locs ht9 hvm9 hw9 hB9 hz9 hk9 hS => ?_)
          have hP : va_P (gD g) cl0 ws_9 H1 := by rw [← ht9]; exact hB9.1
          obtain ⟨hw9, xp_31⟩ := hw9
          have hz_r_30 : r_30 = 0 ∨ r_30 = 1 := hw9
          clear hB9 hz9 hk9 hvm9 ht9 hw9
          generalize H1 = H at hP hS ⊢
          refine lv_if_eq (tgt := 173) hx hb dX5_step_142 (by decide) (fun c_32 => ?_) (fun c_32 => ?_)
          · refine lv_iload_n hx hb dX5_step_173 rfl (lv_at hl 1 rfl) ?_
            refine lv_bipush (v := 87) hx hb dX5_step_174 (by decide) ?_
            have J_203 : ∀ (dc_203_3 : Nat) (ds_203_3 : Nat) (H : Heap) (locs : List Loc) (ls : Array Slot), dc_203_3 + PC ws_9 ≤ PC ws + (0) → ds_203_3 + PS ws_9 ≤ PS ws + (0) → va_P (gD g) cl0 ws_9 H → va_D A ws_9 → va_S A s.heap H locs → lv_has ls 2 [(0, .ref h0), (1, .int r_5)] → W p l e (headSpec (wt yX5_step cX5_step 2 none) ({ frames := 5, cells := PC ws + (0), slots := PS ws + (0), locals := 114 })).room s m ([.ref h0] : List Value).toArray below meth c H locs (dc_203_3) (ds_203_3) (MQ below (va_Qv (fun (u9 : va_W) => (True) ∧ (gN u9 h0 0) ∧ (gN u9 h0 12) ∧ (frP g u9 h0) ∧ (swU u9 h0) ∧ (swC u9 h0) ∧ (arP g u9 h0)) (gQ2 g [(5, 2), (5, 3), (5, 4), (5, 5), (5, 11), (5, 12), (5, 13), (5, 14), (5, 15), (5, 16), (5, 17), (5, 19)] [(5, 1), (5, 2), (5, 4), (5, 8), (5, 9), (5, 10)] none A ws s.heap (0) (0)) A) ([.ref h0] : List Value).toArray s (PC ws + (0)) (PS ws + (0)) A) (F0 m 203 ls []) := by
              intro dc_203_3 ds_203_3 H locs ls  hc9 hs9 hP hD hS hl
              refine lv_iload_n hx hb dX5_step_203 rfl (lv_at hl 1 rfl) ?_
              refine lv_sipush (v := 172) hx hb dX5_step_204 (by decide) ?_
              have J_225 : ∀ (dc_225_4 : Nat) (ds_225_4 : Nat) (H : Heap) (locs : List Loc) (ls : Array Slot), dc_225_4 + PC ws_9 ≤ PC ws + (0) → ds_225_4 + PS ws_9 ≤ PS ws + (0) → va_P (gD g) cl0 ws_9 H → va_D A ws_9 → va_S A s.heap H locs → lv_has ls 2 [(0, .ref h0), (1, .int r_5)] → W p l e (headSpec (wt yX5_step cX5_step 2 none) ({ frames := 5, cells := PC ws + (0), slots := PS ws + (0), locals := 114 })).room s m ([.ref h0] : List Value).toArray below meth c H locs (dc_225_4) (ds_225_4) (MQ below (va_Qv (fun (u9 : va_W) => (True) ∧ (gN u9 h0 0) ∧ (gN u9 h0 12) ∧ (frP g u9 h0) ∧ (swU u9 h0) ∧ (swC u9 h0) ∧ (arP g u9 h0)) (gQ2 g [(5, 2), (5, 3), (5, 4), (5, 5), (5, 11), (5, 12), (5, 13), (5, 14), (5, 15), (5, 16), (5, 17), (5, 19)] [(5, 1), (5, 2), (5, 4), (5, 8), (5, 9), (5, 10)] none A ws s.heap (0) (0)) A) ([.ref h0] : List Value).toArray s (PC ws + (0)) (PS ws + (0)) A) (F0 m 225 ls []) := by
                intro dc_225_4 ds_225_4 H locs ls  hc9 hs9 hP hD hS hl
                refine lv_iload_n hx hb dX5_step_225 rfl (lv_at hl 1 rfl) ?_
                refine lv_sipush (v := 178) hx hb dX5_step_226 (by decide) ?_
                have J_244 : ∀ (dc_244_5 : Nat) (ds_244_5 : Nat) (H : Heap) (locs : List Loc) (ls : Array Slot), dc_244_5 + PC ws_9 ≤ PC ws + (0) → ds_244_5 + PS ws_9 ≤ PS ws + (0) → va_P (gD g) cl0 ws_9 H → va_D A ws_9 → va_S A s.heap H locs → lv_has ls 2 [(0, .ref h0), (1, .int r_5)] → W p l e (headSpec (wt yX5_step cX5_step 2 none) ({ frames := 5, cells := PC ws + (0), slots := PS ws + (0), locals := 114 })).room s m ([.ref h0] : List Value).toArray below meth c H locs (dc_244_5) (ds_244_5) (MQ below (va_Qv (fun (u9 : va_W) => (True) ∧ (gN u9 h0 0) ∧ (gN u9 h0 12) ∧ (frP g u9 h0) ∧ (swU u9 h0) ∧ (swC u9 h0) ∧ (arP g u9 h0)) (gQ2 g [(5, 2), (5, 3), (5, 4), (5, 5), (5, 11), (5, 12), (5, 13), (5, 14), (5, 15), (5, 16), (5, 17), (5, 19)] [(5, 1), (5, 2), (5, 4), (5, 8), (5, 9), (5, 10)] none A ws s.heap (0) (0)) A) ([.ref h0] : List Value).toArray s (PC ws + (0)) (PS ws + (0)) A) (F0 m 244 ls []) := by
                  intro dc_244_5 ds_244_5 H locs ls  hc9 hs9 hP hD hS hl
                  refine lv_aload_n hx hb dX5_step_244 rfl (lv_at hl 0 rfl) ?_
                  refine lv_iload_n hx hb dX5_step_245 rfl (lv_at hl 1 rfl) ?_
                  obtain ⟨fs9, hk_39, hq_39⟩ := ((gF.a (F' := [(5, 19)]) Fr_11 (fun _ h => h))) _ _ _ hk_1
                  obtain ⟨v0_39, r1_39, n1_39, r2_39, n2_39, c3_39, r4_39, n4_39, c5_39, r6_39, n6_39, c7_39, r8_39, n8_39, r9_39, n9_39, r10_39, n10_39, c11_39, v12_39, c13_39, c14_39, c15_39, l16_39, c17_39, c18_39, c19_39, rfl, o_v0_39, F_v0_39, a_r1_39, f3_39, a_r2_39, f5_39, a_r4_39, f7_39, a_r6_39, f9_39, a_r8_39, f11_39, a_r9_39, f13_39, a_r10_39, f15_39, o_v12_39, f17_39, f18_39, f19_39, f20_39, f21_39, f22_39, f23_39, f24_39, f25_39, f26_39, f27_39, f28_39, f29_39, f30_39, f31_39, -⟩ := (hG.1 _ _ _ _ hk_39).hX5 rfl
                  have hn9 := fe_qr (hq_39 0 (by decide))
                  subst hn9
                  have o_b_2 := o_v0_39 _ rfl
                  have F_b_2 := F_v0_39 _ rfl
                  have hn9 := fe_qr (hq_39 12 (by decide))
                  subst hn9
                  have o_b_3 := o_v12_39 _ rfl
                  obtain rfl := fe_i (hq_39 13 (by decide))
                  obtain rfl := fe_i (hq_39 14 (by decide))
                  have tq_40 : frP g ws_9 h0 := frP_mo (Fr_11) (by decide) (by decide) (by decide) (by decide) (by decide) tk0
                  have tq_41 : swU ws_9 h0 := swU_mo (Fr_11) (by decide) (by decide) (by decide) (by decide) (by decide) (by decide) (by decide) (by decide) (by decide) (by decide) (by decide) tk1
                  have tq_42 : swC ws_9 h0 := swC_mo (Fr_11) (by decide) (by decide) (by decide) (by decide) (by decide) (by decide) (by decide) (by decide) (by decide) tk2
                  have tq_43 : arP g ws_9 h0 := arP_mo (Fr_11) (E_10) (by decide) (by decide) tk3
                  have hFc := gfree hD hS hA
                  have pg_44 := ge_5_9 hD hk_39 rfl a_r9_39
                  have pg_45 := ge_5_2 hD hk_39 rfl a_r2_39
                  have pg_46 := ge_5_4 hD hk_39 rfl a_r4_39
                  refine W_led (fun hL0 => ?_)
                  refine va_callv (va_runV (As := [.int r_5]) (rest := []) ⟨hx, hb, hml, hown, hts⟩ (m_X5_useStage l g H ws_9 h0 (r_5) hG o_h0 (gN_of hD hk_39 (j := 0) rfl) (gN_of hD hk_39 (j := 12) rfl) tq_40 tq_41 tq_42 tq_43) (cwV 1 hts (gd_V kw_1176 kw_1195 kw_1196 kw_398 kw_1194) rfl rfl rfl (by decide +kernel) ⟨Nat.le_of_ble_eq_true rfl, Nat.le_of_ble_eq_true rfl⟩) ⟨gblindH, va_recv hK hP (ci := 5) (q0 := k_1) rfl hk_39, fun U hU hW9 => gmkH hU hW9 hP hK hD hex hE hS hFc⟩ rfl rfl hl.1 rfl (lv_room (Nat.le_of_ble_eq_true rfl)) dX5_step_246 ⟨(show dc_244_5 + (PC ws_9 + (0)) ≤ PC ws + (0) from (by have e0 : (0 : Int32).toInt = 0 := (by decide); omega)), (show ds_244_5 + (PS ws_9 + (0)) ≤ PS ws + (0) from (by have e0 : (0 : Int32).toInt = 0 := (by decide); omega))⟩) hS (fun q _ h => hFc q h) hFc (fun  ws_47 t9 H1 locs ht9 hvm9 hw9 hB9 hz9 hk9 hS => ?_)
                  obtain ⟨E_48, Fr_49, hG, hP1, hD1, dc_50, ds_51, hLd, hdc_50, hds_51⟩ := hB9
                  rw [ht9] at hLd
                  refine W_tight (hL0.tr hLd).1 (hL0.tr hLd).2.1 ?_
                  clear hL0 hLd
                  have hP : va_P (gD g) cl0 ws_47 H1 := by rw [← ht9]; exact hP1
                  have hD : va_D A ws_47 := hD1.weaken (fun _ _ _ h => hFc _ h)
                  obtain ⟨hw9, xp_52, xp_53, xp_54, xp_55, xp_56, xp_57⟩ := hw9
                  clear hP1 hD1 hz9 hk9 hvm9 ht9 hw9
                  generalize H1 = H at hP hS ⊢
                  have aa_58 := a_r1_39
                  have aa_59 := a_r2_39
                  have aa_60 := a_r4_39
                  have aa_61 := a_r6_39
                  have aa_62 := a_r8_39
                  have aa_63 := a_r9_39
                  have aa_64 := a_r10_39
                  have o_h0 := E_48.1 _ _ o_h0
                  obtain ⟨fs9, hk_65, hq_65⟩ := ((gF.a (F' := [(5, 2), (5, 3), (5, 4), (5, 5), (5, 11), (5, 12), (5, 13), (5, 14), (5, 15), (5, 17), (5, 19)]) Fr_49 (fun _ h => h))) _ _ _ hk_39
                  obtain ⟨v0_65, r1_65, n1_65, r2_65, n2_65, c3_65, r4_65, n4_65, c5_65, r6_65, n6_65, c7_65, r8_65, n8_65, r9_65, n9_65, r10_65, n10_65, c11_65, v12_65, c13_65, c14_65, c15_65, l16_65, c17_65, c18_65, c19_65, rfl, o_v0_65, F_v0_65, a_r1_65, f3_65, a_r2_65, f5_65, a_r4_65, f7_65, a_r6_65, f9_65, a_r8_65, f11_65, a_r9_65, f13_65, a_r10_65, f15_65, o_v12_65, f17_65, f18_65, f19_65, f20_65, f21_65, f22_65, f23_65, f24_65, f25_65, f26_65, f27_65, f28_65, f29_65, f30_65, f31_65, -⟩ := (hG.1 _ _ _ _ hk_65).hX5 rfl
                  have hn9 := fe_qr (hq_65 0 (by decide))
                  subst hn9
                  have o_b_2 := o_v0_65 _ rfl
                  have F_b_2 := F_v0_65 _ rfl
                  obtain ⟨b_66, hn9⟩ := xp_53 _ _ _ hk_65
                  have hn9 := fe_qr hn9
                  subst hn9
                  have o_b_66 := o_v12_65 _ rfl
                  refine lv_goto (tgt := 267) hx hb dX5_step_249 (by decide) ?_
                  exact J_267 (dc_244_5 + dc_50) (ds_244_5 + ds_51) ws_47 H locs ls (E_48) ((gF.mo (F' := [(5, 2), (5, 3), (5, 4), (5, 5), (5, 11), (5, 12), (5, 13), (5, 14), (5, 15), (5, 16), (5, 17), (5, 19)]) (C' := [(5, 1), (5, 2), (5, 4), (5, 8), (5, 9), (5, 10)]) (S' := none) Fr_49 (by decide) (fun _ h => h) (Or.inr rfl))) hG (by omega) (by omega) xp_54 xp_55 xp_56 xp_57 (gN_of hD hk_65 (j := 12) rfl) hP hD hS (lv_sub hl [] rfl)
                refine lv_icmp_ge (tgt := 244) hx hb dX5_step_229 (by decide) (fun c_67 => ?_) (fun c_67 => ?_)
                · exact J_244 (dc_225_4) (ds_225_4) H locs ls (by omega) (by omega) hP hD hS (lv_sub hl [0, 1] rfl)
                · refine lv_iload_n hx hb dX5_step_232 rfl (lv_at hl 1 rfl) ?_
                  refine lv_bipush (v := 46) hx hb dX5_step_233 (by decide) ?_
                  refine lv_icmp_eq (tgt := 244) hx hb dX5_step_235 (by decide) (fun c_68 => ?_) (fun c_68 => ?_)
                  · exact J_244 (dc_225_4) (ds_225_4) H locs ls (by omega) (by omega) hP hD hS (lv_sub hl [0, 1] rfl)
                  · refine lv_iload_n hx hb dX5_step_238 rfl (lv_at hl 1 rfl) ?_
                    refine lv_bipush (v := 79) hx hb dX5_step_239 (by decide) ?_
                    refine lv_icmp_ne (tgt := 252) hx hb dX5_step_241 (by decide) (fun c_69 => ?_) (fun c_69 => ?_)
                    · refine lv_aload_n hx hb dX5_step_252 rfl (lv_at hl 0 rfl) ?_
                      refine lv_iload_n hx hb dX5_step_253 rfl (lv_at hl 1 rfl) ?_
                      obtain ⟨fs9, hk_70, hq_70⟩ := ((gF.a (F' := [(5, 19)]) Fr_11 (fun _ h => h))) _ _ _ hk_1
                      obtain ⟨v0_70, r1_70, n1_70, r2_70, n2_70, c3_70, r4_70, n4_70, c5_70, r6_70, n6_70, c7_70, r8_70, n8_70, r9_70, n9_70, r10_70, n10_70, c11_70, v12_70, c13_70, c14_70, c15_70, l16_70, c17_70, c18_70, c19_70, rfl, o_v0_70, F_v0_70, a_r1_70, f3_70, a_r2_70, f5_70, a_r4_70, f7_70, a_r6_70, f9_70, a_r8_70, f11_70, a_r9_70, f13_70, a_r10_70, f15_70, o_v12_70, f17_70, f18_70, f19_70, f20_70, f21_70, f22_70, f23_70, f24_70, f25_70, f26_70, f27_70, f28_70, f29_70, f30_70, f31_70, -⟩ := (hG.1 _ _ _ _ hk_70).hX5 rfl
                      have hn9 := fe_qr (hq_70 0 (by decide))
                      subst hn9
                      have o_b_2 := o_v0_70 _ rfl
                      have F_b_2 := F_v0_70 _ rfl
                      have hn9 := fe_qr (hq_70 12 (by decide))
                      subst hn9
                      have o_b_3 := o_v12_70 _ rfl
                      obtain rfl := fe_i (hq_70 13 (by decide))
                      obtain rfl := fe_i (hq_70 14 (by decide))
                      have hFc := gfree hD hS hA
                      refine va_callv (va_runV (As := [.int r_5]) (rest := []) ⟨hx, hb, hml, hown, hts⟩ (m_X5_move l g H.size ws_9 h0 (r_5) hG o_h0 (gN_of hD hk_70 (j := 12) rfl)) (cwV 1 hts (gd_V kw_1177 kw_1101 kw_1102 kw_398 kw_1100) rfl rfl rfl (by decide +kernel) ⟨Nat.le_of_ble_eq_true rfl, Nat.le_of_ble_eq_true rfl⟩) ⟨gblind, va_recv hK hP (ci := 5) (q0 := k_1) rfl hk_70, fun U hU hW9 => gmk hU hW9 hP hK hD hex hE hS hFc⟩ rfl rfl hl.1 rfl (lv_room (Nat.le_of_ble_eq_true rfl)) dX5_step_254 ⟨(show dc_225_4 + 0 ≤ PC ws + (0) from (by omega)), (show ds_225_4 + 0 ≤ PS ws + (0) from (by omega))⟩) hS (fun q _ h => hFc q h) hFc (fun  ws_71 t9 H1 locs ht9 hvm9 hw9 hB9 hz9 hk9 hS => ?_)
                      obtain ⟨E_72, Fr_73, hG, hP1, hD1⟩ := hB9
                      have hP : va_P (gD g) cl0 ws_71 H1 := by rw [← ht9]; exact hP1
                      have hD : va_D A ws_71 := hD1.weaken (fun _ _ _ h => hFc _ h)
                      clear hP1 hD1 hz9 hk9 hvm9 ht9 hw9
                      generalize H1 = H at hP hS ⊢
                      have aa_76 := a_r1_70
                      have aa_77 := a_r2_70
                      have aa_78 := a_r4_70
                      have aa_79 := a_r6_70
                      have aa_80 := a_r8_70
                      have aa_81 := a_r9_70
                      have aa_82 := a_r10_70
                      have o_h0 := E_72.1 _ _ o_h0
                      have pp_83 := Fr_73.pp
                      refine lv_aload_n hx hb dX5_step_257 rfl (lv_at hl 0 rfl) ?_
                      refine lv_dup hx hb dX5_step_258 rfl ?_
                      obtain ⟨fs9, hk_84, hq_84⟩ := ((gF.a (F' := [(5, 14), (5, 19)]) Fr_73 (fun _ h => h))) _ _ _ hk_70
                      obtain ⟨v0_84, r1_84, n1_84, r2_84, n2_84, c3_84, r4_84, n4_84, c5_84, r6_84, n6_84, c7_84, r8_84, n8_84, r9_84, n9_84, r10_84, n10_84, c11_84, v12_84, c13_84, c14_84, c15_84, l16_84, c17_84, c18_84, c19_84, rfl, o_v0_84, F_v0_84, a_r1_84, f3_84, a_r2_84, f5_84, a_r4_84, f7_84, a_r6_84, f9_84, a_r8_84, f11_84, a_r9_84, f13_84, a_r10_84, f15_84, o_v12_84, f17_84, f18_84, f19_84, f20_84, f21_84, f22_84, f23_84, f24_84, f25_84, f26_84, f27_84, f28_84, f29_84, f30_84, f31_84, -⟩ := (hG.1 _ _ _ _ hk_84).hX5 rfl
                      have hn9 := fe_qr (hq_84 0 (by decide))
                      subst hn9
                      have o_b_2 := o_v0_84 _ rfl
                      have F_b_2 := F_v0_84 _ rfl
                      have hn9 := fe_qr (hq_84 12 (by decide))
                      subst hn9
                      have o_b_3 := o_v12_84 _ rfl
                      obtain rfl := fe_i (hq_84 13 (by decide))
                      refine va_get (D := gD g) (ci := 5) (v := .int c13_1) (C := RX5) (T := TX5) (N := 20) hx hb hts inX5 hown hK hP k_1 hk_84 rfl 13 (by decide) (hts _ kw_1021) (fun _ h9 => h9) rfl dX5_step_259 ?_
                      refine lv_iconst (v := 1) hx hb dX5_step_262 (by decide) ?_
                      refine lv_iadd hx hb dX5_step_263 ?_
                      refine lv_topi (fun z_85 ez_85 => ?_)
                      have hV9 : okv ws_71 5 13 (.int z_85) := okv_i
                      refine va_put (D := gD g) (ci := 5) (v := .int z_85) (ty := .int) (C := RX5) (T := TX5) (N := 20) hx hb hts inX5 tyX5 tyX5_ok nmX5 hown hK hP hD hS k_1 hk_84 rfl 13 (by decide) (hts _ kw_1021) (fun _ h9 => h9) rfl (by decide +kernel) rfl rfl (Nat.le_of_ble_eq_true rfl) dX5_step_264 (fun H locs hP hD hS => ?_)
                      have hi_86 : invX5 g ws_71 h0 [.ref b_2, .ref r1_84, .ref r2_84, .int c3_84, .ref r4_84, .int c5_84, .ref r6_84, .int c7_84, .ref r8_84, .ref r9_84, .ref r10_84, .int c11_84, .ref b_3, .int z_85, .int c14_84, .int c15_84, .long l16_84, .int c17_84, .int c18_84, .int c19_84] := ⟨(some b_2), r1_84, (n1_84), r2_84, (n2_84), (c3_84), r4_84, (n4_84), (c5_84), r6_84, (n6_84), (c7_84), r8_84, (n8_84), r9_84, (n9_84), r10_84, (n10_84), (c11_84), (some b_3), (z_85), (c14_84), (c15_84), (l16_84), (c17_84), (c18_84), (c19_84), rfl, (fun b h9 => by cases h9; exact o_b_2), (fun b h9 => by cases h9; exact F_b_2), a_r1_84, f3_84, a_r2_84, f5_84, a_r4_84, f7_84, a_r6_84, f9_84, a_r8_84, f11_84, a_r9_84, f13_84, a_r10_84, f15_84, (fun b h9 => by cases h9; exact o_b_3), f17_84, f18_84, f19_84, f20_84, f21_84, f22_84, f23_84, f24_84, f25_84, f26_84, f27_84, f28_84, f29_84, f30_84, f31_84, trivial⟩
                      obtain ⟨ws_87, e_ws_87⟩ : ∃ z, z = ws_71.set k_1 (h0, .inr (5, [.ref b_2, .ref r1_84, .ref r2_84, .int c3_84, .ref r4_84, .int c5_84, .ref r6_84, .int c7_84, .ref r8_84, .ref r9_84, .ref r10_84, .int c11_84, .ref b_3, .int z_85, .int c14_84, .int c15_84, .long l16_84, .int c17_84, .int c18_84, .int c19_84])) := ⟨_, rfl⟩
                      have hP : va_P (gD g) cl0 ws_87 H := by rw [e_ws_87]; exact hP
                      have hD : va_D A ws_87 := by rw [e_ws_87]; exact hD
                      have E_88 : gE ws_71 ws_87 := gE_set e_ws_87 hk_84 (cw_o (fi := 13) (v := .int z_85) rfl (by decide))
                      have hG : Good g ws_87 := Good_set (fi := 13) (v := .int z_85) e_ws_87 hk_84 E_88 rfl hV9 hG (ivX5 hi_86)
                      have Fr_89 : gF [(5, 13)] [] (some h0) ws_71 ws_87 := gF_put (fi := 13) (v := .int z_85) e_ws_87 hk_84 rfl (by decide)
                      have pp_90 := Fr_89.pp
                      have hkN := gset_self e_ws_87 hk_84
                      have hk_84 := hkN
                      have o_h0 := E_88.1 _ _ o_h0
                      have a_r1_84 := E_88.1 _ _ a_r1_84
                      have a_r2_84 := E_88.1 _ _ a_r2_84
                      have a_r4_84 := E_88.1 _ _ a_r4_84
                      have a_r6_84 := E_88.1 _ _ a_r6_84
                      have a_r8_84 := E_88.1 _ _ a_r8_84
                      have a_r9_84 := E_88.1 _ _ a_r9_84
                      have a_r10_84 := E_88.1 _ _ a_r10_84
                      have o_b_2 := E_88.1 _ _ o_b_2
                      have F_b_2 := F_b_2.mo E_88
                      have o_b_3 := E_88.1 _ _ o_b_3
                      have tq_91 : frP g ws_87 h0 := frP_mo ((gF.tr (gF.mo (F' := [(5, 13), (5, 14), (5, 19)]) (C' := [(5, 8), (5, 9)]) (S' := none) Fr_11 (by decide) (fun _ h => absurd h List.not_mem_nil) (Or.inr rfl)) (gF.tr (gF.mo (F' := [(5, 13), (5, 14), (5, 19)]) (C' := [(5, 8), (5, 9)]) (S' := none) Fr_73 (by decide) (fun _ h => h) (Or.inr rfl)) (gF.mo (F' := [(5, 13), (5, 14), (5, 19)]) (C' := [(5, 8), (5, 9)]) (S' := none) Fr_89 (by decide) (fun _ h => absurd h List.not_mem_nil) (Or.inl rfl))))) (by decide) (by decide) (by decide) (by decide) (by decide) tk0
                      have tq_92 : swU ws_87 h0 := swU_mo ((gF.tr (gF.mo (F' := [(5, 13), (5, 14), (5, 19)]) (C' := [(5, 8), (5, 9)]) (S' := none) Fr_11 (by decide) (fun _ h => absurd h List.not_mem_nil) (Or.inr rfl)) (gF.tr (gF.mo (F' := [(5, 13), (5, 14), (5, 19)]) (C' := [(5, 8), (5, 9)]) (S' := none) Fr_73 (by decide) (fun _ h => h) (Or.inr rfl)) (gF.mo (F' := [(5, 13), (5, 14), (5, 19)]) (C' := [(5, 8), (5, 9)]) (S' := none) Fr_89 (by decide) (fun _ h => absurd h List.not_mem_nil) (Or.inl rfl))))) (by decide) (by decide) (by decide) (by decide) (by decide) (by decide) (by decide) (by decide) (by decide) (by decide) (by decide) tk1
                      have tq_93 : swC ws_87 h0 := swC_mo ((gF.tr (gF.mo (F' := [(5, 13), (5, 14), (5, 19)]) (C' := [(5, 8), (5, 9)]) (S' := none) Fr_11 (by decide) (fun _ h => absurd h List.not_mem_nil) (Or.inr rfl)) (gF.tr (gF.mo (F' := [(5, 13), (5, 14), (5, 19)]) (C' := [(5, 8), (5, 9)]) (S' := none) Fr_73 (by decide) (fun _ h => h) (Or.inr rfl)) (gF.mo (F' := [(5, 13), (5, 14), (5, 19)]) (C' := [(5, 8), (5, 9)]) (S' := none) Fr_89 (by decide) (fun _ h => absurd h List.not_mem_nil) (Or.inl rfl))))) (by decide) (by decide) (by decide) (by decide) (by decide) (by decide) (by decide) (by decide) (by decide) tk2
                      have tq_94 : arP g ws_87 h0 := arP_mo ((gF.tr (gF.mo (F' := [(5, 13), (5, 14), (5, 19)]) (C' := [(5, 8), (5, 9)]) (S' := none) Fr_11 (by decide) (fun _ h => absurd h List.not_mem_nil) (Or.inr rfl)) (gF.tr (gF.mo (F' := [(5, 13), (5, 14), (5, 19)]) (C' := [(5, 8), (5, 9)]) (S' := none) Fr_73 (by decide) (fun _ h => h) (Or.inr rfl)) (gF.mo (F' := [(5, 13), (5, 14), (5, 19)]) (C' := [(5, 8), (5, 9)]) (S' := none) Fr_89 (by decide) (fun _ h => absurd h List.not_mem_nil) (Or.inl rfl))))) ((E_10.tr (E_72.tr E_88))) (by decide) (by decide) tk3
                      exact J_267 (dc_225_4) (ds_225_4) ws_87 H locs ls ((E_72.tr E_88)) ((gF.tr (gF.mo (F' := [(5, 2), (5, 3), (5, 4), (5, 5), (5, 11), (5, 12), (5, 13), (5, 14), (5, 15), (5, 16), (5, 17), (5, 19)]) (C' := [(5, 1), (5, 2), (5, 4), (5, 8), (5, 9), (5, 10)]) (S' := none) Fr_73 (by decide) (by decide) (Or.inr rfl)) (gF.mo (F' := [(5, 2), (5, 3), (5, 4), (5, 5), (5, 11), (5, 12), (5, 13), (5, 14), (5, 15), (5, 16), (5, 17), (5, 19)]) (C' := [(5, 1), (5, 2), (5, 4), (5, 8), (5, 9), (5, 10)]) (S' := none) Fr_89 (by decide) (fun _ h => absurd h List.not_mem_nil) (Or.inl rfl)))) hG (by omega) (by omega) tq_91 tq_92 tq_93 tq_94 (gN_of hD hk_84 (j := 12) rfl) hP hD hS (lv_sub hl [] rfl)
                    · exact J_244 (dc_225_4) (ds_225_4) H locs ls (by omega) (by omega) hP hD hS (lv_sub hl [0, 1] rfl)
              refine lv_icmp_lt (tgt := 225) hx hb dX5_step_207 (by decide) (fun c_95 => ?_) (fun c_95 => ?_)
              · exact J_225 (dc_203_3) (ds_203_3) H locs ls (by omega) (by omega) hP hD hS (lv_sub hl [0, 1] rfl)
              · refine lv_iload_n hx hb dX5_step_210 rfl (lv_at hl 1 rfl) ?_
                refine lv_sipush (v := 177) hx hb dX5_step_211 (by decide) ?_
                refine lv_icmp_gt (tgt := 225) hx hb dX5_step_214 (by decide) (fun c_96 => ?_) (fun c_96 => ?_)
                · exact J_225 (dc_203_3) (ds_203_3) H locs ls (by omega) (by omega) hP hD hS (lv_sub hl [0, 1] rfl)
                · refine lv_aload_n hx hb dX5_step_217 rfl (lv_at hl 0 rfl) ?_
                  refine lv_iload_n hx hb dX5_step_218 rfl (lv_at hl 1 rfl) ?_
                  obtain ⟨fs9, hk_97, hq_97⟩ := ((gF.a (F' := [(5, 19)]) Fr_11 (fun _ h => h))) _ _ _ hk_1
                  obtain ⟨v0_97, r1_97, n1_97, r2_97, n2_97, c3_97, r4_97, n4_97, c5_97, r6_97, n6_97, c7_97, r8_97, n8_97, r9_97, n9_97, r10_97, n10_97, c11_97, v12_97, c13_97, c14_97, c15_97, l16_97, c17_97, c18_97, c19_97, rfl, o_v0_97, F_v0_97, a_r1_97, f3_97, a_r2_97, f5_97, a_r4_97, f7_97, a_r6_97, f9_97, a_r8_97, f11_97, a_r9_97, f13_97, a_r10_97, f15_97, o_v12_97, f17_97, f18_97, f19_97, f20_97, f21_97, f22_97, f23_97, f24_97, f25_97, f26_97, f27_97, f28_97, f29_97, f30_97, f31_97, -⟩ := (hG.1 _ _ _ _ hk_97).hX5 rfl
                  have hn9 := fe_qr (hq_97 0 (by decide))
                  subst hn9
                  have o_b_2 := o_v0_97 _ rfl
                  have F_b_2 := F_v0_97 _ rfl
                  have hn9 := fe_qr (hq_97 12 (by decide))
                  subst hn9
                  have o_b_3 := o_v12_97 _ rfl
                  obtain rfl := fe_i (hq_97 13 (by decide))
                  obtain rfl := fe_i (hq_97 14 (by decide))
                  have tq_98 : frP g ws_9 h0 := frP_mo (Fr_11) (by decide) (by decide) (by decide) (by decide) (by decide) tk0
                  have tq_99 : swU ws_9 h0 := swU_mo (Fr_11) (by decide) (by decide) (by decide) (by decide) (by decide) (by decide) (by decide) (by decide) (by decide) (by decide) (by decide) tk1
                  have tq_100 : swC ws_9 h0 := swC_mo (Fr_11) (by decide) (by decide) (by decide) (by decide) (by decide) (by decide) (by decide) (by decide) (by decide) tk2
                  have tq_101 : arP g ws_9 h0 := arP_mo (Fr_11) (E_10) (by decide) (by decide) tk3
                  have hFc := gfree hD hS hA
                  refine va_callv (va_runV (As := [.int r_5]) (rest := []) ⟨hx, hb, hml, hown, hts⟩ (m_X5_leave l g H.size ws_9 h0 (r_5) hG o_h0 (gN_of hD hk_97 (j := 0) rfl) (gN_of hD hk_97 (j := 12) rfl) tq_98 tq_99 tq_100 tq_101) (cwV 1 hts (gd_V kw_1175 kw_1083 kw_1084 kw_398 kw_1082) rfl rfl rfl (by decide +kernel) ⟨Nat.le_of_ble_eq_true rfl, Nat.le_of_ble_eq_true rfl⟩) ⟨gblind, va_recv hK hP (ci := 5) (q0 := k_1) rfl hk_97, fun U hU hW9 => gmk hU hW9 hP hK hD hex hE hS hFc⟩ rfl rfl hl.1 rfl (lv_room (Nat.le_of_ble_eq_true rfl)) dX5_step_219 ⟨(show dc_203_3 + 0 ≤ PC ws + (0) from (by omega)), (show ds_203_3 + 0 ≤ PS ws + (0) from (by omega))⟩) hS (fun q _ h => hFc q h) hFc (fun  ws_102 t9 H1 locs ht9 hvm9 hw9 hB9 hz9 hk9 hS => ?_)
                  obtain ⟨E_103, Fr_104, hG, hP1, hD1⟩ := hB9
                  have hP : va_P (gD g) cl0 ws_102 H1 := by rw [← ht9]; exact hP1
                  have hD : va_D A ws_102 := hD1.weaken (fun _ _ _ h => hFc _ h)
                  obtain ⟨hw9, xp_107, xp_108, xp_109, xp_110, xp_111, xp_112⟩ := hw9
                  clear hP1 hD1 hz9 hk9 hvm9 ht9 hw9
                  generalize H1 = H at hP hS ⊢
                  have aa_113 := a_r1_97
                  have aa_114 := a_r2_97
                  have aa_115 := a_r4_97
                  have aa_116 := a_r6_97
                  have aa_117 := a_r8_97
                  have aa_118 := a_r9_97
                  have aa_119 := a_r10_97
                  have o_h0 := E_103.1 _ _ o_h0
                  have pp_120 := Fr_104.pp
                  obtain ⟨fs9, hk_121, hq_121⟩ := ((gF.a (F' := [(5, 11), (5, 12), (5, 13), (5, 14), (5, 15), (5, 16), (5, 19)]) Fr_104 (fun _ h => h))) _ _ _ hk_97
                  obtain ⟨v0_121, r1_121, n1_121, r2_121, n2_121, c3_121, r4_121, n4_121, c5_121, r6_121, n6_121, c7_121, r8_121, n8_121, r9_121, n9_121, r10_121, n10_121, c11_121, v12_121, c13_121, c14_121, c15_121, l16_121, c17_121, c18_121, c19_121, rfl, o_v0_121, F_v0_121, a_r1_121, f3_121, a_r2_121, f5_121, a_r4_121, f7_121, a_r6_121, f9_121, a_r8_121, f11_121, a_r9_121, f13_121, a_r10_121, f15_121, o_v12_121, f17_121, f18_121, f19_121, f20_121, f21_121, f22_121, f23_121, f24_121, f25_121, f26_121, f27_121, f28_121, f29_121, f30_121, f31_121, -⟩ := (hG.1 _ _ _ _ hk_121).hX5 rfl
                  have hn9 := fe_qr (hq_121 0 (by decide))
                  subst hn9
                  have o_b_2 := o_v0_121 _ rfl
                  have F_b_2 := F_v0_121 _ rfl
                  obtain ⟨b_122, hn9⟩ := xp_108 _ _ _ hk_121
                  have hn9 := fe_qr hn9
                  subst hn9
                  have o_b_122 := o_v12_121 _ rfl
                  refine lv_goto (tgt := 267) hx hb dX5_step_222 (by decide) ?_
                  exact J_267 (dc_203_3) (ds_203_3) ws_102 H locs ls (E_103) ((gF.mo (F' := [(5, 2), (5, 3), (5, 4), (5, 5), (5, 11), (5, 12), (5, 13), (5, 14), (5, 15), (5, 16), (5, 17), (5, 19)]) (C' := [(5, 1), (5, 2), (5, 4), (5, 8), (5, 9), (5, 10)]) (S' := none) Fr_104 (by decide) (by decide) (Or.inr rfl))) hG (by omega) (by omega) xp_109 xp_110 xp_111 xp_112 (gN_of hD hk_121 (j := 12) rfl) hP hD hS (lv_sub hl [] rfl)
            refine lv_icmp_lt (tgt := 203) hx hb dX5_step_176 (by decide) (fun c_123 => ?_) (fun c_123 => ?_)
            · exact J_203 (dc_40_1) (ds_40_1) H locs ls (by omega) (by omega) hP hD hS (lv_sub hl [0, 1] rfl)
            · refine lv_iload_n hx hb dX5_step_179 rfl (lv_at hl 1 rfl) ?_
              refine lv_bipush (v := 95) hx hb dX5_step_180 (by decide) ?_
              refine lv_icmp_gt (tgt := 203) hx hb dX5_step_182 (by decide) (fun c_124 => ?_) (fun c_124 => ?_)
              · exact J_203 (dc_40_1) (ds_40_1) H locs ls (by omega) (by omega) hP hD hS (lv_sub hl [0, 1] rfl)
              · refine lv_aload_n hx hb dX5_step_185 rfl (lv_at hl 0 rfl) ?_
                refine lv_iload_n hx hb dX5_step_186 rfl (lv_at hl 1 rfl) ?_
                have hFc := gfree hD hS hA
                obtain ⟨k_125, fs_125, hk_125⟩ := gC_of o_h0
                refine va_callv (va_runV (As := [.int r_5]) (rest := []) ⟨hx, hb, hml, hown, hts⟩ (m_X5_shuffle l g H.size ws_9 h0 (r_5) hG o_h0) (cwV 1 hts (gd_V kw_1174 kw_1158 kw_1159 kw_398 kw_1157) rfl rfl rfl (by decide +kernel) ⟨Nat.le_of_ble_eq_true rfl, Nat.le_of_ble_eq_true rfl⟩) ⟨gblind, va_recv hK hP (ci := 5) (q0 := k_125) rfl hk_125, fun U hU hW9 => gmk hU hW9 hP hK hD hex hE hS hFc⟩ rfl rfl hl.1 rfl (lv_room (Nat.le_of_ble_eq_true rfl)) dX5_step_187 ⟨(show dc_40_1 + 0 ≤ PC ws + (0) from (by omega)), (show ds_40_1 + 0 ≤ PS ws + (0) from (by omega))⟩) hS (fun q _ h => hFc q h) hFc (fun  ws_126 t9 H1 locs ht9 hvm9 hw9 hB9 hz9 hk9 hS => ?_)
                obtain ⟨E_127, Fr_128, hG, hP1, hD1⟩ := hB9
                have hP : va_P (gD g) cl0 ws_126 H1 := by rw [← ht9]; exact hP1
                have hD : va_D A ws_126 := hD1.weaken (fun _ _ _ h => hFc _ h)
                clear hP1 hD1 hz9 hk9 hvm9 ht9 hw9
                generalize H1 = H at hP hS ⊢
                have o_h0 := E_127.1 _ _ o_h0
                have pp_131 := Fr_128.pp
                refine lv_aload_n hx hb dX5_step_190 rfl (lv_at hl 0 rfl) ?_
                refine lv_dup hx hb dX5_step_191 rfl ?_
                obtain ⟨fs9, hk_132, hq_132⟩ := ((gA.tr (gF.a (F' := [(5, 14), (5, 19)]) Fr_11 (by decide)) (gF.a (F' := [(5, 14), (5, 19)]) Fr_128 (fun _ h => h)))) _ _ _ hk_1
                obtain ⟨v0_132, r1_132, n1_132, r2_132, n2_132, c3_132, r4_132, n4_132, c5_132, r6_132, n6_132, c7_132, r8_132, n8_132, r9_132, n9_132, r10_132, n10_132, c11_132, v12_132, c13_132, c14_132, c15_132, l16_132, c17_132, c18_132, c19_132, rfl, o_v0_132, F_v0_132, a_r1_132, f3_132, a_r2_132, f5_132, a_r4_132, f7_132, a_r6_132, f9_132, a_r8_132, f11_132, a_r9_132, f13_132, a_r10_132, f15_132, o_v12_132, f17_132, f18_132, f19_132, f20_132, f21_132, f22_132, f23_132, f24_132, f25_132, f26_132, f27_132, f28_132, f29_132, f30_132, f31_132, -⟩ := (hG.1 _ _ _ _ hk_132).hX5 rfl
                have hn9 := fe_qr (hq_132 0 (by decide))
                subst hn9
                have o_b_2 := o_v0_132 _ rfl
                have F_b_2 := F_v0_132 _ rfl
                have hn9 := fe_qr (hq_132 12 (by decide))
                subst hn9
                have o_b_3 := o_v12_132 _ rfl
                obtain rfl := fe_i (hq_132 13 (by decide))
                refine va_get (D := gD g) (ci := 5) (v := .int c13_1) (C := RX5) (T := TX5) (N := 20) hx hb hts inX5 hown hK hP k_1 hk_132 rfl 13 (by decide) (hts _ kw_1021) (fun _ h9 => h9) rfl dX5_step_192 ?_
                refine lv_iconst (v := 1) hx hb dX5_step_195 (by decide) ?_
                refine lv_iadd hx hb dX5_step_196 ?_
                refine lv_topi (fun z_133 ez_133 => ?_)
                have hV9 : okv ws_126 5 13 (.int z_133) := okv_i
                refine va_put (D := gD g) (ci := 5) (v := .int z_133) (ty := .int) (C := RX5) (T := TX5) (N := 20) hx hb hts inX5 tyX5 tyX5_ok nmX5 hown hK hP hD hS k_1 hk_132 rfl 13 (by decide) (hts _ kw_1021) (fun _ h9 => h9) rfl (by decide +kernel) rfl rfl (Nat.le_of_ble_eq_true rfl) dX5_step_197 (fun H locs hP hD hS => ?_)
                have hi_134 : invX5 g ws_126 h0 [.ref b_2, .ref r1_132, .ref r2_132, .int c3_132, .ref r4_132, .int c5_132, .ref r6_132, .int c7_132, .ref r8_132, .ref r9_132, .ref r10_132, .int c11_132, .ref b_3, .int z_133, .int c14_132, .int c15_132, .long l16_132, .int c17_132, .int c18_132, .int c19_132] := ⟨(some b_2), r1_132, (n1_132), r2_132, (n2_132), (c3_132), r4_132, (n4_132), (c5_132), r6_132, (n6_132), (c7_132), r8_132, (n8_132), r9_132, (n9_132), r10_132, (n10_132), (c11_132), (some b_3), (z_133), (c14_132), (c15_132), (l16_132), (c17_132), (c18_132), (c19_132), rfl, (fun b h9 => by cases h9; exact o_b_2), (fun b h9 => by cases h9; exact F_b_2), a_r1_132, f3_132, a_r2_132, f5_132, a_r4_132, f7_132, a_r6_132, f9_132, a_r8_132, f11_132, a_r9_132, f13_132, a_r10_132, f15_132, (fun b h9 => by cases h9; exact o_b_3), f17_132, f18_132, f19_132, f20_132, f21_132, f22_132, f23_132, f24_132, f25_132, f26_132, f27_132, f28_132, f29_132, f30_132, f31_132, trivial⟩
                obtain ⟨ws_135, e_ws_135⟩ : ∃ z, z = ws_126.set k_1 (h0, .inr (5, [.ref b_2, .ref r1_132, .ref r2_132, .int c3_132, .ref r4_132, .int c5_132, .ref r6_132, .int c7_132, .ref r8_132, .ref r9_132, .ref r10_132, .int c11_132, .ref b_3, .int z_133, .int c14_132, .int c15_132, .long l16_132, .int c17_132, .int c18_132, .int c19_132])) := ⟨_, rfl⟩
                have hP : va_P (gD g) cl0 ws_135 H := by rw [e_ws_135]; exact hP
                have hD : va_D A ws_135 := by rw [e_ws_135]; exact hD
                have E_136 : gE ws_126 ws_135 := gE_set e_ws_135 hk_132 (cw_o (fi := 13) (v := .int z_133) rfl (by decide))
                have hG : Good g ws_135 := Good_set (fi := 13) (v := .int z_133) e_ws_135 hk_132 E_136 rfl hV9 hG (ivX5 hi_134)
                have Fr_137 : gF [(5, 13)] [] (some h0) ws_126 ws_135 := gF_put (fi := 13) (v := .int z_133) e_ws_135 hk_132 rfl (by decide)
                have pp_138 := Fr_137.pp
                have hkN := gset_self e_ws_135 hk_132
                have hk_132 := hkN
                have o_h0 := E_136.1 _ _ o_h0
                have a_r1_132 := E_136.1 _ _ a_r1_132
                have a_r2_132 := E_136.1 _ _ a_r2_132
                have a_r4_132 := E_136.1 _ _ a_r4_132
                have a_r6_132 := E_136.1 _ _ a_r6_132
                have a_r8_132 := E_136.1 _ _ a_r8_132
                have a_r9_132 := E_136.1 _ _ a_r9_132
                have a_r10_132 := E_136.1 _ _ a_r10_132
                have o_b_2 := E_136.1 _ _ o_b_2
                have F_b_2 := F_b_2.mo E_136
                have o_b_3 := E_136.1 _ _ o_b_3
                refine lv_goto (tgt := 267) hx hb dX5_step_200 (by decide) ?_
                have tq_139 : frP g ws_135 h0 := frP_mo ((gF.tr (gF.mo (F' := [(5, 13), (5, 14), (5, 19)]) (C' := [(5, 9)]) (S' := none) Fr_11 (by decide) (fun _ h => absurd h List.not_mem_nil) (Or.inr rfl)) (gF.tr (gF.mo (F' := [(5, 13), (5, 14), (5, 19)]) (C' := [(5, 9)]) (S' := none) Fr_128 (by decide) (fun _ h => h) (Or.inr rfl)) (gF.mo (F' := [(5, 13), (5, 14), (5, 19)]) (C' := [(5, 9)]) (S' := none) Fr_137 (by decide) (fun _ h => absurd h List.not_mem_nil) (Or.inl rfl))))) (by decide) (by decide) (by decide) (by decide) (by decide) tk0
                have tq_140 : swU ws_135 h0 := swU_mo ((gF.tr (gF.mo (F' := [(5, 13), (5, 14), (5, 19)]) (C' := [(5, 9)]) (S' := none) Fr_11 (by decide) (fun _ h => absurd h List.not_mem_nil) (Or.inr rfl)) (gF.tr (gF.mo (F' := [(5, 13), (5, 14), (5, 19)]) (C' := [(5, 9)]) (S' := none) Fr_128 (by decide) (fun _ h => h) (Or.inr rfl)) (gF.mo (F' := [(5, 13), (5, 14), (5, 19)]) (C' := [(5, 9)]) (S' := none) Fr_137 (by decide) (fun _ h => absurd h List.not_mem_nil) (Or.inl rfl))))) (by decide) (by decide) (by decide) (by decide) (by decide) (by decide) (by decide) (by decide) (by decide) (by decide) (by decide) tk1
                have tq_141 : swC ws_135 h0 := swC_mo ((gF.tr (gF.mo (F' := [(5, 13), (5, 14), (5, 19)]) (C' := [(5, 9)]) (S' := none) Fr_11 (by decide) (fun _ h => absurd h List.not_mem_nil) (Or.inr rfl)) (gF.tr (gF.mo (F' := [(5, 13), (5, 14), (5, 19)]) (C' := [(5, 9)]) (S' := none) Fr_128 (by decide) (fun _ h => h) (Or.inr rfl)) (gF.mo (F' := [(5, 13), (5, 14), (5, 19)]) (C' := [(5, 9)]) (S' := none) Fr_137 (by decide) (fun _ h => absurd h List.not_mem_nil) (Or.inl rfl))))) (by decide) (by decide) (by decide) (by decide) (by decide) (by decide) (by decide) (by decide) (by decide) tk2
                have tq_142 : arP g ws_135 h0 := arP_mo ((gF.tr (gF.mo (F' := [(5, 13), (5, 14), (5, 19)]) (C' := [(5, 9)]) (S' := none) Fr_11 (by decide) (fun _ h => absurd h List.not_mem_nil) (Or.inr rfl)) (gF.tr (gF.mo (F' := [(5, 13), (5, 14), (5, 19)]) (C' := [(5, 9)]) (S' := none) Fr_128 (by decide) (fun _ h => h) (Or.inr rfl)) (gF.mo (F' := [(5, 13), (5, 14), (5, 19)]) (C' := [(5, 9)]) (S' := none) Fr_137 (by decide) (fun _ h => absurd h List.not_mem_nil) (Or.inl rfl))))) ((E_10.tr (E_127.tr E_136))) (by decide) (by decide) tk3
                exact J_267 (dc_40_1) (ds_40_1) ws_135 H locs ls ((E_127.tr E_136)) ((gF.tr (gF.mo (F' := [(5, 2), (5, 3), (5, 4), (5, 5), (5, 11), (5, 12), (5, 13), (5, 14), (5, 15), (5, 16), (5, 17), (5, 19)]) (C' := [(5, 1), (5, 2), (5, 4), (5, 8), (5, 9), (5, 10)]) (S' := none) Fr_128 (by decide) (by decide) (Or.inr rfl)) (gF.mo (F' := [(5, 2), (5, 3), (5, 4), (5, 5), (5, 11), (5, 12), (5, 13), (5, 14), (5, 15), (5, 16), (5, 17), (5, 19)]) (C' := [(5, 1), (5, 2), (5, 4), (5, 8), (5, 9), (5, 10)]) (S' := none) Fr_137 (by decide) (fun _ h => absurd h List.not_mem_nil) (Or.inl rfl)))) hG (by omega) (by omega) tq_139 tq_140 tq_141 tq_142 (gN_of hD hk_132 (j := 12) rfl) hP hD hS (lv_sub hl [] rfl)
          · refine lv_aload_n hx hb dX5_step_145 rfl (lv_at hl 0 rfl) ?_
            refine lv_aload_n hx hb dX5_step_146 rfl (lv_at hl 0 rfl) ?_
            obtain ⟨fs9, hk_143, hq_143⟩ := ((gF.a (F' := [(5, 19)]) Fr_11 (fun _ h => h))) _ _ _ hk_1
            obtain ⟨v0_143, r1_143, n1_143, r2_143, n2_143, c3_143, r4_143, n4_143, c5_143, r6_143, n6_143, c7_143, r8_143, n8_143, r9_143, n9_143, r10_143, n10_143, c11_143, v12_143, c13_143, c14_143, c15_143, l16_143, c17_143, c18_143, c19_143, rfl, o_v0_143, F_v0_143, a_r1_143, f3_143, a_r2_143, f5_143, a_r4_143, f7_143, a_r6_143, f9_143, a_r8_143, f11_143, a_r9_143, f13_143, a_r10_143, f15_143, o_v12_143, f17_143, f18_143, f19_143, f20_143, f21_143, f22_143, f23_143, f24_143, f25_143, f26_143, f27_143, f28_143, f29_143, f30_143, f31_143, -⟩ := (hG.1 _ _ _ _ hk_143).hX5 rfl
            have hn9 := fe_qr (hq_143 0 (by decide))
            subst hn9
            have o_b_2 := o_v0_143 _ rfl
            have F_b_2 := F_v0_143 _ rfl
            have hn9 := fe_qr (hq_143 12 (by decide))
            subst hn9
            have o_b_3 := o_v12_143 _ rfl
            obtain rfl := fe_i (hq_143 13 (by decide))
            obtain rfl := fe_i (hq_143 14 (by decide))
            refine va_get (D := gD g) (ci := 5) (v := .ref b_3) (C := RX5) (T := TX5) (N := 20) hx hb hts inX5 hown hK hP k_1 hk_143 rfl 12 (by decide) (hts _ kw_1030) (fun _ h9 => h9) rfl dX5_step_147 ?_
            refine lv_aload_n hx hb dX5_step_150 rfl (lv_at hl 0 rfl) ?_
            refine va_get (D := gD g) (ci := 5) (v := .int c13_1) (C := RX5) (T := TX5) (N := 20) hx hb hts inX5 hown hK hP k_1 hk_143 rfl 13 (by decide) (hts _ kw_1021) (fun _ h9 => h9) rfl dX5_step_151 ?_
            refine lv_aload_n hx hb dX5_step_154 rfl (lv_at hl 0 rfl) ?_
            refine lv_iload_n hx hb dX5_step_155 rfl (lv_at hl 1 rfl) ?_
            refine lv_aload_n hx hb dX5_step_156 rfl (lv_at hl 0 rfl) ?_
            have hFc := gfree hD hS hA
            refine va_calll (va_runV (As := []) (rest := [.int r_5, .ref h0, .int c13_1, .ref b_3, .ref h0]) ⟨hx, hb, hml, hown, hts⟩ (m_X5_pop l g H.size ws_9 h0 hG o_h0) (cwV 0 hts (gd_V kw_1080 kw_1124 kw_1125 kw_398 kw_1123) rfl rfl rfl (by decide +kernel) ⟨Nat.le_of_ble_eq_true rfl, Nat.le_of_ble_eq_true rfl⟩) ⟨gblind, va_recv hK hP (ci := 5) (q0 := k_1) rfl hk_143, fun U hU hW9 => gmk hU hW9 hP hK hD hex hE hS hFc⟩ rfl rfl hl.1 rfl (lv_room (Nat.le_of_ble_eq_true rfl)) dX5_step_157 ⟨(show dc_40_1 + 0 ≤ PC ws + (0) from (by omega)), (show ds_40_1 + 0 ≤ PS ws + (0) from (by omega))⟩) hS (fun q _ h => hFc q h) hFc (fun r_144 ws_145 t9 H1 locs ht9 hvm9 hw9 hB9 hz9 hk9 hS => ?_)
            obtain ⟨E_146, Fr_147, hG, hP1, hD1⟩ := hB9
            have hP : va_P (gD g) cl0 ws_145 H1 := by rw [← ht9]; exact hP1
            have hD : va_D A ws_145 := hD1.weaken (fun _ _ _ h => hFc _ h)
            clear hP1 hD1 hz9 hk9 hvm9 ht9 hw9
            generalize H1 = H at hP hS ⊢
            have aa_150 := a_r1_143
            have aa_151 := a_r2_143
            have aa_152 := a_r4_143
            have aa_153 := a_r6_143
            have aa_154 := a_r8_143
            have aa_155 := a_r9_143
            have aa_156 := a_r10_143
            have o_h0 := E_146.1 _ _ o_h0
            have o_b_3 := E_146.1 _ _ o_b_3
            have pp_157 := Fr_147.pp
            obtain ⟨z_158, ez_158⟩ : ∃ y : Int32, (r_144 : Int64).toInt32 = y := ⟨_, rfl⟩
            refine lv_l2i (v := z_158) hx hb dX5_step_160 ez_158 ?_
            obtain ⟨fs9, hk_159, hq_159⟩ := ((gF.a (F' := [(5, 14), (5, 19)]) Fr_147 (fun _ h => h))) _ _ _ hk_143
            obtain ⟨v0_159, r1_159, n1_159, r2_159, n2_159, c3_159, r4_159, n4_159, c5_159, r6_159, n6_159, c7_159, r8_159, n8_159, r9_159, n9_159, r10_159, n10_159, c11_159, v12_159, c13_159, c14_159, c15_159, l16_159, c17_159, c18_159, c19_159, rfl, o_v0_159, F_v0_159, a_r1_159, f3_159, a_r2_159, f5_159, a_r4_159, f7_159, a_r6_159, f9_159, a_r8_159, f11_159, a_r9_159, f13_159, a_r10_159, f15_159, o_v12_159, f17_159, f18_159, f19_159, f20_159, f21_159, f22_159, f23_159, f24_159, f25_159, f26_159, f27_159, f28_159, f29_159, f30_159, f31_159, -⟩ := (hG.1 _ _ _ _ hk_159).hX5 rfl
            have hn9 := fe_qr (hq_159 0 (by decide))
            subst hn9
            have o_b_2 := o_v0_159 _ rfl
            have F_b_2 := F_v0_159 _ rfl
            have hn9 := fe_qr (hq_159 12 (by decide))
            subst hn9
            have o_b_3 := o_v12_159 _ rfl
            obtain rfl := fe_i (hq_159 13 (by decide))
            have tq_160 : swC ws_145 h0 := swC_mo ((gF.tr (gF.mo (F' := [(5, 14), (5, 19)]) (C' := []) (S' := none) Fr_11 (by decide) (fun _ h => h) (Or.inr rfl)) Fr_147)) (by decide) (by decide) (by decide) (by decide) (by decide) (by decide) (by decide) (by decide) (by decide) tk2
            have hFc := gfree hD hS hA
            refine va_calli (va_runV (As := [.int r_5, .int z_158]) (rest := [.int c13_1, .ref b_3, .ref h0]) ⟨hx, hb, hml, hown, hts⟩ (m_X5_switchChoice l g H.size ws_145 h0 (r_5) (z_158) hG o_h0 (gN_of hD hk_159 (j := 12) rfl) tq_160) (cwV 2 hts (gd_V kw_1172 kw_1179 kw_1180 kw_398 kw_1178) rfl rfl rfl (by decide +kernel) ⟨Nat.le_of_ble_eq_true rfl, Nat.le_of_ble_eq_true rfl⟩) ⟨gblind, va_recv hK hP (ci := 5) (q0 := k_1) rfl hk_159, fun U hU hW9 => gmk hU hW9 hP hK hD hex hE hS hFc⟩ rfl rfl hl.1 rfl (lv_room (Nat.le_of_ble_eq_true rfl)) dX5_step_161 ⟨(show dc_40_1 + 0 ≤ PC ws + (0) from (by omega)), (show ds_40_1 + 0 ≤ PS ws + (0) from (by omega))⟩) hS (fun q _ h => hFc q h) hFc (fun r_161 u9 t9 H1 locs ht9 hvm9 hw9 hB9 hz9 hk9 hS => ?_)
            have hP : va_P (gD g) cl0 ws_145 H1 := by rw [← ht9]; exact hB9.1
            clear hB9 hz9 hk9 hvm9 ht9 hw9
            generalize H1 = H at hP hS ⊢
            have hFc := gfree hD hS hA
            obtain ⟨k_162, fs_162, hk_162⟩ := gC_of o_b_3
            refine va_calli (va_runV (As := [.int c13_1, .int r_161]) (rest := [.ref h0]) ⟨hx, hb, hml, hown, hts⟩ (m_X8_targetAt l g H.size ws_145 b_3 (c13_1) (r_161) hG o_b_3) (cwV 2 hts (gd_V kw_1173 kw_1537 kw_1538 kw_782 kw_1536) rfl rfl rfl (by decide +kernel) ⟨Nat.le_of_ble_eq_true rfl, Nat.le_of_ble_eq_true rfl⟩) ⟨gblind, va_recv hK hP (ci := 7) (q0 := k_162) rfl hk_162, fun U hU hW9 => gmk hU hW9 hP hK hD hex hE hS hFc⟩ rfl rfl hl.1 rfl (lv_room (Nat.le_of_ble_eq_true rfl)) dX5_step_164 ⟨(show dc_40_1 + 0 ≤ PC ws + (0) from (by omega)), (show ds_40_1 + 0 ≤ PS ws + (0) from (by omega))⟩) hS (fun q _ h => hFc q h) hFc (fun r_163 u9 t9 H1 locs ht9 hvm9 hw9 hB9 hz9 hk9 hS => ?_)
            have hP : va_P (gD g) cl0 ws_145 H1 := by rw [← ht9]; exact hB9.1
            clear hB9 hz9 hk9 hvm9 ht9 hw9
            generalize H1 = H at hP hS ⊢
            have hV9 : okv ws_145 5 13 (.int r_163) := okv_i
            refine va_put (D := gD g) (ci := 5) (v := .int r_163) (ty := .int) (C := RX5) (T := TX5) (N := 20) hx hb hts inX5 tyX5 tyX5_ok nmX5 hown hK hP hD hS k_1 hk_159 rfl 13 (by decide) (hts _ kw_1021) (fun _ h9 => h9) rfl (by decide +kernel) rfl rfl (Nat.le_of_ble_eq_true rfl) dX5_step_167 (fun H locs hP hD hS => ?_)
            have hi_164 : invX5 g ws_145 h0 [.ref b_2, .ref r1_159, .ref r2_159, .int c3_159, .ref r4_159, .int c5_159, .ref r6_159, .int c7_159, .ref r8_159, .ref r9_159, .ref r10_159, .int c11_159, .ref b_3, .int r_163, .int c14_159, .int c15_159, .long l16_159, .int c17_159, .int c18_159, .int c19_159] := ⟨(some b_2), r1_159, (n1_159), r2_159, (n2_159), (c3_159), r4_159, (n4_159), (c5_159), r6_159, (n6_159), (c7_159), r8_159, (n8_159), r9_159, (n9_159), r10_159, (n10_159), (c11_159), (some b_3), (r_163), (c14_159), (c15_159), (l16_159), (c17_159), (c18_159), (c19_159), rfl, (fun b h9 => by cases h9; exact o_b_2), (fun b h9 => by cases h9; exact F_b_2), a_r1_159, f3_159, a_r2_159, f5_159, a_r4_159, f7_159, a_r6_159, f9_159, a_r8_159, f11_159, a_r9_159, f13_159, a_r10_159, f15_159, (fun b h9 => by cases h9; exact o_b_3), f17_159, f18_159, f19_159, f20_159, f21_159, f22_159, f23_159, f24_159, f25_159, f26_159, f27_159, f28_159, f29_159, f30_159, f31_159, trivial⟩
            obtain ⟨ws_165, e_ws_165⟩ : ∃ z, z = ws_145.set k_1 (h0, .inr (5, [.ref b_2, .ref r1_159, .ref r2_159, .int c3_159, .ref r4_159, .int c5_159, .ref r6_159, .int c7_159, .ref r8_159, .ref r9_159, .ref r10_159, .int c11_159, .ref b_3, .int r_163, .int c14_159, .int c15_159, .long l16_159, .int c17_159, .int c18_159, .int c19_159])) := ⟨_, rfl⟩
            have hP : va_P (gD g) cl0 ws_165 H := by rw [e_ws_165]; exact hP
            have hD : va_D A ws_165 := by rw [e_ws_165]; exact hD
            have E_166 : gE ws_145 ws_165 := gE_set e_ws_165 hk_159 (cw_o (fi := 13) (v := .int r_163) rfl (by decide))
            have hG : Good g ws_165 := Good_set (fi := 13) (v := .int r_163) e_ws_165 hk_159 E_166 rfl hV9 hG (ivX5 hi_164)
            have Fr_167 : gF [(5, 13)] [] (some h0) ws_145 ws_165 := gF_put (fi := 13) (v := .int r_163) e_ws_165 hk_159 rfl (by decide)
            have pp_168 := Fr_167.pp
            have hkN := gset_self e_ws_165 hk_159
            have hk_159 := hkN
            have o_h0 := E_166.1 _ _ o_h0
            have o_b_3 := E_166.1 _ _ o_b_3
            have a_r1_159 := E_166.1 _ _ a_r1_159
            have a_r2_159 := E_166.1 _ _ a_r2_159
            have a_r4_159 := E_166.1 _ _ a_r4_159
            have a_r6_159 := E_166.1 _ _ a_r6_159
            have a_r8_159 := E_166.1 _ _ a_r8_159
            have a_r9_159 := E_166.1 _ _ a_r9_159
            have a_r10_159 := E_166.1 _ _ a_r10_159
            have o_b_2 := E_166.1 _ _ o_b_2
            have F_b_2 := F_b_2.mo E_166
            refine lv_goto (tgt := 267) hx hb dX5_step_170 (by decide) ?_
            have tq_169 : frP g ws_165 h0 := frP_mo ((gF.tr (gF.mo (F' := [(5, 13), (5, 14), (5, 19)]) (C' := []) (S' := none) Fr_11 (by decide) (fun _ h => h) (Or.inr rfl)) (gF.tr (gF.mo (F' := [(5, 13), (5, 14), (5, 19)]) (C' := []) (S' := none) Fr_147 (by decide) (fun _ h => h) (Or.inr rfl)) (gF.mo (F' := [(5, 13), (5, 14), (5, 19)]) (C' := []) (S' := none) Fr_167 (by decide) (fun _ h => h) (Or.inl rfl))))) (by decide) (by decide) (by decide) (by decide) (by decide) tk0
            have tq_170 : swU ws_165 h0 := swU_mo ((gF.tr (gF.mo (F' := [(5, 13), (5, 14), (5, 19)]) (C' := []) (S' := none) Fr_11 (by decide) (fun _ h => h) (Or.inr rfl)) (gF.tr (gF.mo (F' := [(5, 13), (5, 14), (5, 19)]) (C' := []) (S' := none) Fr_147 (by decide) (fun _ h => h) (Or.inr rfl)) (gF.mo (F' := [(5, 13), (5, 14), (5, 19)]) (C' := []) (S' := none) Fr_167 (by decide) (fun _ h => h) (Or.inl rfl))))) (by decide) (by decide) (by decide) (by decide) (by decide) (by decide) (by decide) (by decide) (by decide) (by decide) (by decide) tk1
            have tq_171 : swC ws_165 h0 := swC_mo ((gF.mo (F' := [(5, 13)]) (C' := []) (S' := none) Fr_167 (fun _ h => h) (fun _ h => h) (Or.inl rfl))) (by decide) (by decide) (by decide) (by decide) (by decide) (by decide) (by decide) (by decide) (by decide) tq_160
            have tq_172 : arP g ws_165 h0 := arP_mo ((gF.tr (gF.mo (F' := [(5, 13), (5, 14), (5, 19)]) (C' := []) (S' := none) Fr_11 (by decide) (fun _ h => h) (Or.inr rfl)) (gF.tr (gF.mo (F' := [(5, 13), (5, 14), (5, 19)]) (C' := []) (S' := none) Fr_147 (by decide) (fun _ h => h) (Or.inr rfl)) (gF.mo (F' := [(5, 13), (5, 14), (5, 19)]) (C' := []) (S' := none) Fr_167 (by decide) (fun _ h => h) (Or.inl rfl))))) ((E_10.tr (E_146.tr E_166))) (by decide) (by decide) tk3
            exact J_267 (dc_40_1) (ds_40_1) ws_165 H locs ls ((E_146.tr E_166)) ((gF.tr (gF.mo (F' := [(5, 2), (5, 3), (5, 4), (5, 5), (5, 11), (5, 12), (5, 13), (5, 14), (5, 15), (5, 16), (5, 17), (5, 19)]) (C' := [(5, 1), (5, 2), (5, 4), (5, 8), (5, 9), (5, 10)]) (S' := none) Fr_147 (by decide) (fun _ h => absurd h List.not_mem_nil) (Or.inr rfl)) (gF.mo (F' := [(5, 2), (5, 3), (5, 4), (5, 5), (5, 11), (5, 12), (5, 13), (5, 14), (5, 15), (5, 16), (5, 17), (5, 19)]) (C' := [(5, 1), (5, 2), (5, 4), (5, 8), (5, 9), (5, 10)]) (S' := none) Fr_167 (by decide) (fun _ h => absurd h List.not_mem_nil) (Or.inl rfl)))) hG (by omega) (by omega) tq_169 tq_170 tq_171 tq_172 (gN_of hD hk_159 (j := 12) rfl) hP hD hS (lv_sub hl [] rfl)
        · refine lv_aload_n hx hb dX5_step_102 rfl (lv_at hl 0 rfl) ?_
          refine lv_aload_n hx hb dX5_step_103 rfl (lv_at hl 0 rfl) ?_
          refine lv_iload_n hx hb dX5_step_104 rfl (lv_at hl 1 rfl) ?_
          have hFc := gfree hD hS hA
          obtain ⟨k_173, fs_173, hk_173⟩ := gC_of o_h0
          refine va_calli (va_runV (As := [.int r_5]) (rest := [.ref h0]) ⟨hx, hb, hml, hown, hts⟩ (m_X5_isJumpTaken l g H.size ws_9 h0 (r_5) hG o_h0) (cwV 1 hts (gd_V kw_1170 kw_1078 kw_1079 kw_398 kw_1077) rfl rfl rfl (by decide +kernel) ⟨Nat.le_of_ble_eq_true rfl, Nat.le_of_ble_eq_true rfl⟩) ⟨gblind, va_recv hK hP (ci := 5) (q0 := k_173) rfl hk_173, fun U hU hW9 => gmk hU hW9 hP hK hD hex hE hS hFc⟩ rfl rfl hl.1 rfl (lv_room (Nat.le_of_ble_eq_true rfl)) dX5_step_105 ⟨(show dc_40_1 + 0 ≤ PC ws + (0) from (by omega)), (show ds_40_1 + 0 ≤ PS ws + (0) from (by omega))⟩) hS (fun q _ h => hFc q h) hFc (fun r_174 ws_175 t9 H1 locs ht9 hvm9 hw9 hB9 hz9 hk9 hS => ?_)
          obtain ⟨E_176, Fr_177, hG, hP1, hD1⟩ := hB9
          have hP : va_P (gD g) cl0 ws_175 H1 := by rw [← ht9]; exact hP1
          have hD : va_D A ws_175 := hD1.weaken (fun _ _ _ h => hFc _ h)
          have hz_r_174 : r_174 = 0 ∨ r_174 = 1 := hw9
          clear hP1 hD1 hz9 hk9 hvm9 ht9 hw9
          generalize H1 = H at hP hS ⊢
          have o_h0 := E_176.1 _ _ o_h0
          have pp_180 := Fr_177.pp
          have J_132 : ∀ (t_181 : Int32) (dc_132_6 : Nat) (ds_132_6 : Nat) (H : Heap) (locs : List Loc) (ls : Array Slot), dc_132_6 + PC ws_175 ≤ PC ws + (0) → ds_132_6 + PS ws_175 ≤ PS ws + (0) → va_P (gD g) cl0 ws_175 H → va_D A ws_175 → va_S A s.heap H locs → lv_has ls 2 [] → W p l e (headSpec (wt yX5_step cX5_step 2 none) ({ frames := 5, cells := PC ws + (0), slots := PS ws + (0), locals := 114 })).room s m ([.ref h0] : List Value).toArray below meth c H locs (dc_132_6) (ds_132_6) (MQ below (va_Qv (fun (u9 : va_W) => (True) ∧ (gN u9 h0 0) ∧ (gN u9 h0 12) ∧ (frP g u9 h0) ∧ (swU u9 h0) ∧ (swC u9 h0) ∧ (arP g u9 h0)) (gQ2 g [(5, 2), (5, 3), (5, 4), (5, 5), (5, 11), (5, 12), (5, 13), (5, 14), (5, 15), (5, 16), (5, 17), (5, 19)] [(5, 1), (5, 2), (5, 4), (5, 8), (5, 9), (5, 10)] none A ws s.heap (0) (0)) A) ([.ref h0] : List Value).toArray s (PC ws + (0)) (PS ws + (0)) A) (F0 m 132 ls [.int t_181, .ref h0]) := by
            intro t_181 dc_132_6 ds_132_6 H locs ls  hc9 hs9 hP hD hS hl
            obtain ⟨fs9, hk_184, hq_184⟩ := ((gA.tr (gF.a (F' := [(5, 14), (5, 19)]) Fr_11 (by decide)) (gF.a (F' := [(5, 14), (5, 19)]) Fr_177 (fun _ h => h)))) _ _ _ hk_1
            obtain ⟨v0_184, r1_184, n1_184, r2_184, n2_184, c3_184, r4_184, n4_184, c5_184, r6_184, n6_184, c7_184, r8_184, n8_184, r9_184, n9_184, r10_184, n10_184, c11_184, v12_184, c13_184, c14_184, c15_184, l16_184, c17_184, c18_184, c19_184, rfl, o_v0_184, F_v0_184, a_r1_184, f3_184, a_r2_184, f5_184, a_r4_184, f7_184, a_r6_184, f9_184, a_r8_184, f11_184, a_r9_184, f13_184, a_r10_184, f15_184, o_v12_184, f17_184, f18_184, f19_184, f20_184, f21_184, f22_184, f23_184, f24_184, f25_184, f26_184, f27_184, f28_184, f29_184, f30_184, f31_184, -⟩ := (hG.1 _ _ _ _ hk_184).hX5 rfl
            have hn9 := fe_qr (hq_184 0 (by decide))
            subst hn9
            have o_b_2 := o_v0_184 _ rfl
            have F_b_2 := F_v0_184 _ rfl
            have hn9 := fe_qr (hq_184 12 (by decide))
            subst hn9
            have o_b_3 := o_v12_184 _ rfl
            obtain rfl := fe_i (hq_184 13 (by decide))
            have hV9 : okv ws_175 5 13 (.int t_181) := okv_i
            refine va_put (D := gD g) (ci := 5) (v := .int t_181) (ty := .int) (C := RX5) (T := TX5) (N := 20) hx hb hts inX5 tyX5 tyX5_ok nmX5 hown hK hP hD hS k_1 hk_184 rfl 13 (by decide) (hts _ kw_1021) (fun _ h9 => h9) rfl (by decide +kernel) rfl rfl (Nat.le_of_ble_eq_true rfl) dX5_step_132 (fun H locs hP hD hS => ?_)
            have hi_185 : invX5 g ws_175 h0 [.ref b_2, .ref r1_184, .ref r2_184, .int c3_184, .ref r4_184, .int c5_184, .ref r6_184, .int c7_184, .ref r8_184, .ref r9_184, .ref r10_184, .int c11_184, .ref b_3, .int t_181, .int c14_184, .int c15_184, .long l16_184, .int c17_184, .int c18_184, .int c19_184] := ⟨(some b_2), r1_184, (n1_184), r2_184, (n2_184), (c3_184), r4_184, (n4_184), (c5_184), r6_184, (n6_184), (c7_184), r8_184, (n8_184), r9_184, (n9_184), r10_184, (n10_184), (c11_184), (some b_3), (t_181), (c14_184), (c15_184), (l16_184), (c17_184), (c18_184), (c19_184), rfl, (fun b h9 => by cases h9; exact o_b_2), (fun b h9 => by cases h9; exact F_b_2), a_r1_184, f3_184, a_r2_184, f5_184, a_r4_184, f7_184, a_r6_184, f9_184, a_r8_184, f11_184, a_r9_184, f13_184, a_r10_184, f15_184, (fun b h9 => by cases h9; exact o_b_3), f17_184, f18_184, f19_184, f20_184, f21_184, f22_184, f23_184, f24_184, f25_184, f26_184, f27_184, f28_184, f29_184, f30_184, f31_184, trivial⟩
            obtain ⟨ws_186, e_ws_186⟩ : ∃ z, z = ws_175.set k_1 (h0, .inr (5, [.ref b_2, .ref r1_184, .ref r2_184, .int c3_184, .ref r4_184, .int c5_184, .ref r6_184, .int c7_184, .ref r8_184, .ref r9_184, .ref r10_184, .int c11_184, .ref b_3, .int t_181, .int c14_184, .int c15_184, .long l16_184, .int c17_184, .int c18_184, .int c19_184])) := ⟨_, rfl⟩
            have hP : va_P (gD g) cl0 ws_186 H := by rw [e_ws_186]; exact hP
            have hD : va_D A ws_186 := by rw [e_ws_186]; exact hD
            have E_187 : gE ws_175 ws_186 := gE_set e_ws_186 hk_184 (cw_o (fi := 13) (v := .int t_181) rfl (by decide))
            have hG : Good g ws_186 := Good_set (fi := 13) (v := .int t_181) e_ws_186 hk_184 E_187 rfl hV9 hG (ivX5 hi_185)
            have Fr_188 : gF [(5, 13)] [] (some h0) ws_175 ws_186 := gF_put (fi := 13) (v := .int t_181) e_ws_186 hk_184 rfl (by decide)
            have pp_189 := Fr_188.pp
            have hkN := gset_self e_ws_186 hk_184
            have hk_184 := hkN
            have o_h0 := E_187.1 _ _ o_h0
            have a_r1_184 := E_187.1 _ _ a_r1_184
            have a_r2_184 := E_187.1 _ _ a_r2_184
            have a_r4_184 := E_187.1 _ _ a_r4_184
            have a_r6_184 := E_187.1 _ _ a_r6_184
            have a_r8_184 := E_187.1 _ _ a_r8_184
            have a_r9_184 := E_187.1 _ _ a_r9_184
            have a_r10_184 := E_187.1 _ _ a_r10_184
            have o_b_2 := E_187.1 _ _ o_b_2
            have F_b_2 := F_b_2.mo E_187
            have o_b_3 := E_187.1 _ _ o_b_3
            refine lv_goto (tgt := 267) hx hb dX5_step_135 (by decide) ?_
            have tq_190 : frP g ws_186 h0 := frP_mo ((gF.tr (gF.mo (F' := [(5, 13), (5, 14), (5, 19)]) (C' := []) (S' := none) Fr_11 (by decide) (fun _ h => h) (Or.inr rfl)) (gF.tr (gF.mo (F' := [(5, 13), (5, 14), (5, 19)]) (C' := []) (S' := none) Fr_177 (by decide) (fun _ h => h) (Or.inr rfl)) (gF.mo (F' := [(5, 13), (5, 14), (5, 19)]) (C' := []) (S' := none) Fr_188 (by decide) (fun _ h => h) (Or.inl rfl))))) (by decide) (by decide) (by decide) (by decide) (by decide) tk0
            have tq_191 : swU ws_186 h0 := swU_mo ((gF.tr (gF.mo (F' := [(5, 13), (5, 14), (5, 19)]) (C' := []) (S' := none) Fr_11 (by decide) (fun _ h => h) (Or.inr rfl)) (gF.tr (gF.mo (F' := [(5, 13), (5, 14), (5, 19)]) (C' := []) (S' := none) Fr_177 (by decide) (fun _ h => h) (Or.inr rfl)) (gF.mo (F' := [(5, 13), (5, 14), (5, 19)]) (C' := []) (S' := none) Fr_188 (by decide) (fun _ h => h) (Or.inl rfl))))) (by decide) (by decide) (by decide) (by decide) (by decide) (by decide) (by decide) (by decide) (by decide) (by decide) (by decide) tk1
            have tq_192 : swC ws_186 h0 := swC_mo ((gF.tr (gF.mo (F' := [(5, 13), (5, 14), (5, 19)]) (C' := []) (S' := none) Fr_11 (by decide) (fun _ h => h) (Or.inr rfl)) (gF.tr (gF.mo (F' := [(5, 13), (5, 14), (5, 19)]) (C' := []) (S' := none) Fr_177 (by decide) (fun _ h => h) (Or.inr rfl)) (gF.mo (F' := [(5, 13), (5, 14), (5, 19)]) (C' := []) (S' := none) Fr_188 (by decide) (fun _ h => h) (Or.inl rfl))))) (by decide) (by decide) (by decide) (by decide) (by decide) (by decide) (by decide) (by decide) (by decide) tk2
            have tq_193 : arP g ws_186 h0 := arP_mo ((gF.tr (gF.mo (F' := [(5, 13), (5, 14), (5, 19)]) (C' := []) (S' := none) Fr_11 (by decide) (fun _ h => h) (Or.inr rfl)) (gF.tr (gF.mo (F' := [(5, 13), (5, 14), (5, 19)]) (C' := []) (S' := none) Fr_177 (by decide) (fun _ h => h) (Or.inr rfl)) (gF.mo (F' := [(5, 13), (5, 14), (5, 19)]) (C' := []) (S' := none) Fr_188 (by decide) (fun _ h => h) (Or.inl rfl))))) ((E_10.tr (E_176.tr E_187))) (by decide) (by decide) tk3
            exact J_267 (dc_132_6) (ds_132_6) ws_186 H locs ls ((E_176.tr E_187)) ((gF.tr (gF.mo (F' := [(5, 2), (5, 3), (5, 4), (5, 5), (5, 11), (5, 12), (5, 13), (5, 14), (5, 15), (5, 16), (5, 17), (5, 19)]) (C' := [(5, 1), (5, 2), (5, 4), (5, 8), (5, 9), (5, 10)]) (S' := none) Fr_177 (by decide) (fun _ h => absurd h List.not_mem_nil) (Or.inr rfl)) (gF.mo (F' := [(5, 2), (5, 3), (5, 4), (5, 5), (5, 11), (5, 12), (5, 13), (5, 14), (5, 15), (5, 16), (5, 17), (5, 19)]) (C' := [(5, 1), (5, 2), (5, 4), (5, 8), (5, 9), (5, 10)]) (S' := none) Fr_188 (by decide) (fun _ h => absurd h List.not_mem_nil) (Or.inl rfl)))) hG (by omega) (by omega) tq_190 tq_191 tq_192 tq_193 (gN_of hD hk_184 (j := 12) rfl) hP hD hS (lv_sub hl [] rfl)
          refine lv_if_eq (tgt := 126) hx hb dX5_step_108 (by decide) (fun c_194 => ?_) (fun c_194 => ?_)
          · refine lv_aload_n hx hb dX5_step_126 rfl (lv_at hl 0 rfl) ?_
            obtain ⟨fs9, hk_195, hq_195⟩ := ((gA.tr (gF.a (F' := [(5, 14), (5, 19)]) Fr_11 (by decide)) (gF.a (F' := [(5, 14), (5, 19)]) Fr_177 (fun _ h => h)))) _ _ _ hk_1
            obtain ⟨v0_195, r1_195, n1_195, r2_195, n2_195, c3_195, r4_195, n4_195, c5_195, r6_195, n6_195, c7_195, r8_195, n8_195, r9_195, n9_195, r10_195, n10_195, c11_195, v12_195, c13_195, c14_195, c15_195, l16_195, c17_195, c18_195, c19_195, rfl, o_v0_195, F_v0_195, a_r1_195, f3_195, a_r2_195, f5_195, a_r4_195, f7_195, a_r6_195, f9_195, a_r8_195, f11_195, a_r9_195, f13_195, a_r10_195, f15_195, o_v12_195, f17_195, f18_195, f19_195, f20_195, f21_195, f22_195, f23_195, f24_195, f25_195, f26_195, f27_195, f28_195, f29_195, f30_195, f31_195, -⟩ := (hG.1 _ _ _ _ hk_195).hX5 rfl
            have hn9 := fe_qr (hq_195 0 (by decide))
            subst hn9
            have o_b_2 := o_v0_195 _ rfl
            have F_b_2 := F_v0_195 _ rfl
            have hn9 := fe_qr (hq_195 12 (by decide))
            subst hn9
            have o_b_3 := o_v12_195 _ rfl
            obtain rfl := fe_i (hq_195 13 (by decide))
            refine va_get (D := gD g) (ci := 5) (v := .int c13_1) (C := RX5) (T := TX5) (N := 20) hx hb hts inX5 hown hK hP k_1 hk_195 rfl 13 (by decide) (hts _ kw_1021) (fun _ h9 => h9) rfl dX5_step_127 ?_
            refine lv_iconst (v := 1) hx hb dX5_step_130 (by decide) ?_
            refine lv_iadd hx hb dX5_step_131 ?_
            refine lv_topi (fun z_196 ez_196 => ?_)
            exact J_132 (z_196) (dc_40_1) (ds_40_1) H locs ls (by omega) (by omega) hP hD hS (lv_sub hl [] rfl)
          · refine lv_aload_n hx hb dX5_step_111 rfl (lv_at hl 0 rfl) ?_
            obtain ⟨fs9, hk_197, hq_197⟩ := ((gA.tr (gF.a (F' := [(5, 14), (5, 19)]) Fr_11 (by decide)) (gF.a (F' := [(5, 14), (5, 19)]) Fr_177 (fun _ h => h)))) _ _ _ hk_1
            obtain ⟨v0_197, r1_197, n1_197, r2_197, n2_197, c3_197, r4_197, n4_197, c5_197, r6_197, n6_197, c7_197, r8_197, n8_197, r9_197, n9_197, r10_197, n10_197, c11_197, v12_197, c13_197, c14_197, c15_197, l16_197, c17_197, c18_197, c19_197, rfl, o_v0_197, F_v0_197, a_r1_197, f3_197, a_r2_197, f5_197, a_r4_197, f7_197, a_r6_197, f9_197, a_r8_197, f11_197, a_r9_197, f13_197, a_r10_197, f15_197, o_v12_197, f17_197, f18_197, f19_197, f20_197, f21_197, f22_197, f23_197, f24_197, f25_197, f26_197, f27_197, f28_197, f29_197, f30_197, f31_197, -⟩ := (hG.1 _ _ _ _ hk_197).hX5 rfl
            have hn9 := fe_qr (hq_197 0 (by decide))
            subst hn9
            have o_b_2 := o_v0_197 _ rfl
            have F_b_2 := F_v0_197 _ rfl
            have hn9 := fe_qr (hq_197 12 (by decide))
            subst hn9
            have o_b_3 := o_v12_197 _ rfl
            obtain rfl := fe_i (hq_197 13 (by decide))
            refine va_get (D := gD g) (ci := 5) (v := .ref b_3) (C := RX5) (T := TX5) (N := 20) hx hb hts inX5 hown hK hP k_1 hk_197 rfl 12 (by decide) (hts _ kw_1030) (fun _ h9 => h9) rfl dX5_step_112 ?_
            refine lv_aload_n hx hb dX5_step_115 rfl (lv_at hl 0 rfl) ?_
            refine va_get (D := gD g) (ci := 5) (v := .int c13_1) (C := RX5) (T := TX5) (N := 20) hx hb hts inX5 hown hK hP k_1 hk_197 rfl 13 (by decide) (hts _ kw_1021) (fun _ h9 => h9) rfl dX5_step_116 ?_
            have hFc := gfree hD hS hA
            obtain ⟨k_198, fs_198, hk_198⟩ := gC_of o_b_3
            refine va_calll (va_runV (As := [.int c13_1]) (rest := [.ref h0]) ⟨hx, hb, hml, hown, hts⟩ (m_X8_argAt_x l g H.size ws_175 b_3 (c13_1) hG o_b_3) (cwV 1 hts (gd_V kw_1104 kw_1476 kw_1477 kw_782 kw_1475) rfl rfl rfl (by decide +kernel) ⟨Nat.le_of_ble_eq_true rfl, Nat.le_of_ble_eq_true rfl⟩) ⟨gblind, va_recv hK hP (ci := 7) (q0 := k_198) rfl hk_198, fun U hU hW9 => gmk hU hW9 hP hK hD hex hE hS hFc⟩ rfl rfl hl.1 rfl (lv_room (Nat.le_of_ble_eq_true rfl)) dX5_step_119 ⟨(show dc_40_1 + 0 ≤ PC ws + (0) from (by omega)), (show ds_40_1 + 0 ≤ PS ws + (0) from (by omega))⟩) hS (fun q _ h => hFc q h) hFc (fun r_199 u9 t9 H1 locs ht9 hvm9 hw9 hB9 hz9 hk9 hS => ?_)
            have hP : va_P (gD g) cl0 ws_175 H1 := by rw [← ht9]; exact hB9.1
            obtain ⟨hw9, xp_200⟩ := hw9
            clear hB9 hz9 hk9 hvm9 ht9 hw9
            generalize H1 = H at hP hS ⊢
            obtain ⟨z_201, ez_201⟩ : ∃ y : Int32, (r_199 : Int64).toInt32 = y := ⟨_, rfl⟩
            refine lv_l2i (v := z_201) hx hb dX5_step_122 ez_201 ?_
            refine lv_goto (tgt := 132) hx hb dX5_step_123 (by decide) ?_
            exact J_132 (z_201) (dc_40_1) (ds_40_1) H locs ls (by omega) (by omega) hP hD hS (lv_sub hl [] rfl)
      · refine lv_aload_n hx hb dX5_step_62 rfl (lv_at hl 0 rfl) ?_
        refine lv_iload_n hx hb dX5_step_63 rfl (lv_at hl 1 rfl) ?_
        have hFc := gfree hD hS hA
        refine va_calli (va_runS (As := [.int r_5]) (rest := [.ref h0]) ⟨hx, hb, hml, hown, hts⟩ (m_X6_gives l g H.size ws_9 (r_5) hG ) (va_cwS 1 hts (gd_S kw_1018 kw_1216 kw_1207 kw_1215) rfl rfl rfl (by decide +kernel) ⟨Nat.le_of_ble_eq_true rfl, Nat.le_of_ble_eq_true rfl⟩) ⟨gblind, fun U hU hW9 => gmk hU hW9 hP hK hD hex hE hS hFc⟩ rfl rfl hl.1 rfl (lv_room (Nat.le_of_ble_eq_true rfl)) dX5_step_64 ⟨(show dc_40_1 + 0 ≤ PC ws + (0) from (by omega)), (show ds_40_1 + 0 ≤ PS ws + (0) from (by omega))⟩) hS (fun q _ h => hFc q h) hFc (fun r_202 u9 t9 H1 locs ht9 hvm9 hw9 hB9 hz9 hk9 hS => ?_)
        have hP : va_P (gD g) cl0 ws_9 H1 := by rw [← ht9]; exact hB9.1
        clear hB9 hz9 hk9 hvm9 ht9 hw9
        generalize H1 = H at hP hS ⊢
        refine lv_iload_n hx hb dX5_step_67 rfl (lv_at hl 1 rfl) ?_
        refine lv_aload_n hx hb dX5_step_68 rfl (lv_at hl 0 rfl) ?_
        refine lv_iload_n hx hb dX5_step_69 rfl (lv_at hl 1 rfl) ?_
        have hFc := gfree hD hS hA
        refine va_calli (va_runS (As := [.int r_5]) (rest := [.ref h0, .int r_5, .int r_202, .ref h0]) ⟨hx, hb, hml, hown, hts⟩ (m_X6_takes l g H.size ws_9 (r_5) hG ) (va_cwS 1 hts (gd_S kw_1014 kw_1255 kw_1207 kw_1254) rfl rfl rfl (by decide +kernel) ⟨Nat.le_of_ble_eq_true rfl, Nat.le_of_ble_eq_true rfl⟩) ⟨gblind, fun U hU hW9 => gmk hU hW9 hP hK hD hex hE hS hFc⟩ rfl rfl hl.1 rfl (lv_room (Nat.le_of_ble_eq_true rfl)) dX5_step_70 ⟨(show dc_40_1 + 0 ≤ PC ws + (0) from (by omega)), (show ds_40_1 + 0 ≤ PS ws + (0) from (by omega))⟩) hS (fun q _ h => hFc q h) hFc (fun r_203 u9 t9 H1 locs ht9 hvm9 hw9 hB9 hz9 hk9 hS => ?_)
        have hP : va_P (gD g) cl0 ws_9 H1 := by rw [← ht9]; exact hB9.1
        clear hB9 hz9 hk9 hvm9 ht9 hw9
        generalize H1 = H at hP hS ⊢
        have hFc := gfree hD hS hA
        obtain ⟨k_204, fs_204, hk_204⟩ := gC_of o_h0
        refine va_calll (va_runV (As := [.int r_203]) (rest := [.int r_5, .int r_202, .ref h0]) ⟨hx, hb, hml, hown, hts⟩ (m_X5_pop_ l g H.size ws_9 h0 (r_203) hG o_h0) (cwV 1 hts (gd_V kw_1015 kw_1127 kw_1128 kw_398 kw_1126) rfl rfl rfl (by decide +kernel) ⟨Nat.le_of_ble_eq_true rfl, Nat.le_of_ble_eq_true rfl⟩) ⟨gblind, va_recv hK hP (ci := 5) (q0 := k_204) rfl hk_204, fun U hU hW9 => gmk hU hW9 hP hK hD hex hE hS hFc⟩ rfl rfl hl.1 rfl (lv_room (Nat.le_of_ble_eq_true rfl)) dX5_step_73 ⟨(show dc_40_1 + 0 ≤ PC ws + (0) from (by omega)), (show ds_40_1 + 0 ≤ PS ws + (0) from (by omega))⟩) hS (fun q _ h => hFc q h) hFc (fun r_205 ws_206 t9 H1 locs ht9 hvm9 hw9 hB9 hz9 hk9 hS => ?_)
        obtain ⟨E_207, Fr_208, hG, hP1, hD1⟩ := hB9
        have hP : va_P (gD g) cl0 ws_206 H1 := by rw [← ht9]; exact hP1
        have hD : va_D A ws_206 := hD1.weaken (fun _ _ _ h => hFc _ h)
        clear hP1 hD1 hz9 hk9 hvm9 ht9 hw9
        generalize H1 = H at hP hS ⊢
        have o_h0 := E_207.1 _ _ o_h0
        have pp_211 := Fr_208.pp
        have hFc := gfree hD hS hA
        refine va_calll (va_runS (As := [.int r_5, .long r_205]) (rest := [.int r_202, .ref h0]) ⟨hx, hb, hml, hown, hts⟩ (m_X6_unary l g H.size ws_206 (r_5) (r_205) hG ) (va_cwS 2 hts (gd_S kw_1168 kw_1258 kw_1207 kw_1257) rfl rfl rfl (by decide +kernel) ⟨Nat.le_of_ble_eq_true rfl, Nat.le_of_ble_eq_true rfl⟩) ⟨gblind, fun U hU hW9 => gmk hU hW9 hP hK hD hex hE hS hFc⟩ rfl rfl hl.1 rfl (lv_room (Nat.le_of_ble_eq_true rfl)) dX5_step_76 ⟨(show dc_40_1 + 0 ≤ PC ws + (0) from (by omega)), (show ds_40_1 + 0 ≤ PS ws + (0) from (by omega))⟩) hS (fun q _ h => hFc q h) hFc (fun r_212 u9 t9 H1 locs ht9 hvm9 hw9 hB9 hz9 hk9 hS => ?_)
        have hP : va_P (gD g) cl0 ws_206 H1 := by rw [← ht9]; exact hB9.1
        clear hB9 hz9 hk9 hvm9 ht9 hw9
        generalize H1 = H at hP hS ⊢
        have hFc := gfree hD hS hA
        obtain ⟨k_213, fs_213, hk_213⟩ := gC_of o_h0
        refine va_callv (va_runV (As := [.int r_202, .long r_212]) (rest := []) ⟨hx, hb, hml, hown, hts⟩ (m_X5_push_ l g H.size ws_206 h0 (r_202) (r_212) hG o_h0) (cwV 2 hts (gd_V kw_1020 kw_1133 kw_1134 kw_398 kw_1132) rfl rfl rfl (by decide +kernel) ⟨Nat.le_of_ble_eq_true rfl, Nat.le_of_ble_eq_true rfl⟩) ⟨gblind, va_recv hK hP (ci := 5) (q0 := k_213) rfl hk_213, fun U hU hW9 => gmk hU hW9 hP hK hD hex hE hS hFc⟩ rfl rfl hl.1 rfl (lv_room (Nat.le_of_ble_eq_true rfl)) dX5_step_79 ⟨(show dc_40_1 + 0 ≤ PC ws + (0) from (by omega)), (show ds_40_1 + 0 ≤ PS ws + (0) from (by omega))⟩) hS (fun q _ h => hFc q h) hFc (fun  ws_214 t9 H1 locs ht9 hvm9 hw9 hB9 hz9 hk9 hS => ?_)
        obtain ⟨E_215, Fr_216, hG, hP1, hD1⟩ := hB9
        have hP : va_P (gD g) cl0 ws_214 H1 := by rw [← ht9]; exact hP1
        have hD : va_D A ws_214 := hD1.weaken (fun _ _ _ h => hFc _ h)
        clear hP1 hD1 hz9 hk9 hvm9 ht9 hw9
        generalize H1 = H at hP hS ⊢
        have o_h0 := E_215.1 _ _ o_h0
        have pp_219 := Fr_216.pp
        refine lv_aload_n hx hb dX5_step_82 rfl (lv_at hl 0 rfl) ?_
        refine lv_dup hx hb dX5_step_83 rfl ?_
        obtain ⟨fs9, hk_220, hq_220⟩ := ((gA.tr (gF.a (F' := [(5, 14), (5, 19)]) Fr_11 (by decide)) (gA.tr (gF.a (F' := [(5, 14), (5, 19)]) Fr_208 (fun _ h => h)) (gF.a (F' := [(5, 14), (5, 19)]) Fr_216 (fun _ h => h))))) _ _ _ hk_1
        obtain ⟨v0_220, r1_220, n1_220, r2_220, n2_220, c3_220, r4_220, n4_220, c5_220, r6_220, n6_220, c7_220, r8_220, n8_220, r9_220, n9_220, r10_220, n10_220, c11_220, v12_220, c13_220, c14_220, c15_220, l16_220, c17_220, c18_220, c19_220, rfl, o_v0_220, F_v0_220, a_r1_220, f3_220, a_r2_220, f5_220, a_r4_220, f7_220, a_r6_220, f9_220, a_r8_220, f11_220, a_r9_220, f13_220, a_r10_220, f15_220, o_v12_220, f17_220, f18_220, f19_220, f20_220, f21_220, f22_220, f23_220, f24_220, f25_220, f26_220, f27_220, f28_220, f29_220, f30_220, f31_220, -⟩ := (hG.1 _ _ _ _ hk_220).hX5 rfl
        have hn9 := fe_qr (hq_220 0 (by decide))
        subst hn9
        have o_b_2 := o_v0_220 _ rfl
        have F_b_2 := F_v0_220 _ rfl
        have hn9 := fe_qr (hq_220 12 (by decide))
        subst hn9
        have o_b_3 := o_v12_220 _ rfl
        obtain rfl := fe_i (hq_220 13 (by decide))
        refine va_get (D := gD g) (ci := 5) (v := .int c13_1) (C := RX5) (T := TX5) (N := 20) hx hb hts inX5 hown hK hP k_1 hk_220 rfl 13 (by decide) (hts _ kw_1021) (fun _ h9 => h9) rfl dX5_step_84 ?_
        refine lv_iconst (v := 1) hx hb dX5_step_87 (by decide) ?_
        refine lv_iadd hx hb dX5_step_88 ?_
        refine lv_topi (fun z_221 ez_221 => ?_)
        have hV9 : okv ws_214 5 13 (.int z_221) := okv_i
        refine va_put (D := gD g) (ci := 5) (v := .int z_221) (ty := .int) (C := RX5) (T := TX5) (N := 20) hx hb hts inX5 tyX5 tyX5_ok nmX5 hown hK hP hD hS k_1 hk_220 rfl 13 (by decide) (hts _ kw_1021) (fun _ h9 => h9) rfl (by decide +kernel) rfl rfl (Nat.le_of_ble_eq_true rfl) dX5_step_89 (fun H locs hP hD hS => ?_)
        have hi_222 : invX5 g ws_214 h0 [.ref b_2, .ref r1_220, .ref r2_220, .int c3_220, .ref r4_220, .int c5_220, .ref r6_220, .int c7_220, .ref r8_220, .ref r9_220, .ref r10_220, .int c11_220, .ref b_3, .int z_221, .int c14_220, .int c15_220, .long l16_220, .int c17_220, .int c18_220, .int c19_220] := ⟨(some b_2), r1_220, (n1_220), r2_220, (n2_220), (c3_220), r4_220, (n4_220), (c5_220), r6_220, (n6_220), (c7_220), r8_220, (n8_220), r9_220, (n9_220), r10_220, (n10_220), (c11_220), (some b_3), (z_221), (c14_220), (c15_220), (l16_220), (c17_220), (c18_220), (c19_220), rfl, (fun b h9 => by cases h9; exact o_b_2), (fun b h9 => by cases h9; exact F_b_2), a_r1_220, f3_220, a_r2_220, f5_220, a_r4_220, f7_220, a_r6_220, f9_220, a_r8_220, f11_220, a_r9_220, f13_220, a_r10_220, f15_220, (fun b h9 => by cases h9; exact o_b_3), f17_220, f18_220, f19_220, f20_220, f21_220, f22_220, f23_220, f24_220, f25_220, f26_220, f27_220, f28_220, f29_220, f30_220, f31_220, trivial⟩
        obtain ⟨ws_223, e_ws_223⟩ : ∃ z, z = ws_214.set k_1 (h0, .inr (5, [.ref b_2, .ref r1_220, .ref r2_220, .int c3_220, .ref r4_220, .int c5_220, .ref r6_220, .int c7_220, .ref r8_220, .ref r9_220, .ref r10_220, .int c11_220, .ref b_3, .int z_221, .int c14_220, .int c15_220, .long l16_220, .int c17_220, .int c18_220, .int c19_220])) := ⟨_, rfl⟩
        have hP : va_P (gD g) cl0 ws_223 H := by rw [e_ws_223]; exact hP
        have hD : va_D A ws_223 := by rw [e_ws_223]; exact hD
        have E_224 : gE ws_214 ws_223 := gE_set e_ws_223 hk_220 (cw_o (fi := 13) (v := .int z_221) rfl (by decide))
        have hG : Good g ws_223 := Good_set (fi := 13) (v := .int z_221) e_ws_223 hk_220 E_224 rfl hV9 hG (ivX5 hi_222)
        have Fr_225 : gF [(5, 13)] [] (some h0) ws_214 ws_223 := gF_put (fi := 13) (v := .int z_221) e_ws_223 hk_220 rfl (by decide)
        have pp_226 := Fr_225.pp
        have hkN := gset_self e_ws_223 hk_220
        have hk_220 := hkN
        have o_h0 := E_224.1 _ _ o_h0
        have a_r1_220 := E_224.1 _ _ a_r1_220
        have a_r2_220 := E_224.1 _ _ a_r2_220
        have a_r4_220 := E_224.1 _ _ a_r4_220
        have a_r6_220 := E_224.1 _ _ a_r6_220
        have a_r8_220 := E_224.1 _ _ a_r8_220
        have a_r9_220 := E_224.1 _ _ a_r9_220
        have a_r10_220 := E_224.1 _ _ a_r10_220
        have o_b_2 := E_224.1 _ _ o_b_2
        have F_b_2 := F_b_2.mo E_224
        have o_b_3 := E_224.1 _ _ o_b_3
        refine lv_goto (tgt := 267) hx hb dX5_step_92 (by decide) ?_
        have tq_227 : frP g ws_223 h0 := frP_mo ((gF.tr (gF.mo (F' := [(5, 13), (5, 14), (5, 19)]) (C' := [(5, 9)]) (S' := none) Fr_11 (by decide) (fun _ h => absurd h List.not_mem_nil) (Or.inr rfl)) (gF.tr (gF.mo (F' := [(5, 13), (5, 14), (5, 19)]) (C' := [(5, 9)]) (S' := none) Fr_208 (by decide) (fun _ h => absurd h List.not_mem_nil) (Or.inr rfl)) (gF.tr (gF.mo (F' := [(5, 13), (5, 14), (5, 19)]) (C' := [(5, 9)]) (S' := none) Fr_216 (by decide) (fun _ h => h) (Or.inr rfl)) (gF.mo (F' := [(5, 13), (5, 14), (5, 19)]) (C' := [(5, 9)]) (S' := none) Fr_225 (by decide) (fun _ h => absurd h List.not_mem_nil) (Or.inl rfl)))))) (by decide) (by decide) (by decide) (by decide) (by decide) tk0
        have tq_228 : swU ws_223 h0 := swU_mo ((gF.tr (gF.mo (F' := [(5, 13), (5, 14), (5, 19)]) (C' := [(5, 9)]) (S' := none) Fr_11 (by decide) (fun _ h => absurd h List.not_mem_nil) (Or.inr rfl)) (gF.tr (gF.mo (F' := [(5, 13), (5, 14), (5, 19)]) (C' := [(5, 9)]) (S' := none) Fr_208 (by decide) (fun _ h => absurd h List.not_mem_nil) (Or.inr rfl)) (gF.tr (gF.mo (F' := [(5, 13), (5, 14), (5, 19)]) (C' := [(5, 9)]) (S' := none) Fr_216 (by decide) (fun _ h => h) (Or.inr rfl)) (gF.mo (F' := [(5, 13), (5, 14), (5, 19)]) (C' := [(5, 9)]) (S' := none) Fr_225 (by decide) (fun _ h => absurd h List.not_mem_nil) (Or.inl rfl)))))) (by decide) (by decide) (by decide) (by decide) (by decide) (by decide) (by decide) (by decide) (by decide) (by decide) (by decide) tk1
        have tq_229 : swC ws_223 h0 := swC_mo ((gF.tr (gF.mo (F' := [(5, 13), (5, 14), (5, 19)]) (C' := [(5, 9)]) (S' := none) Fr_11 (by decide) (fun _ h => absurd h List.not_mem_nil) (Or.inr rfl)) (gF.tr (gF.mo (F' := [(5, 13), (5, 14), (5, 19)]) (C' := [(5, 9)]) (S' := none) Fr_208 (by decide) (fun _ h => absurd h List.not_mem_nil) (Or.inr rfl)) (gF.tr (gF.mo (F' := [(5, 13), (5, 14), (5, 19)]) (C' := [(5, 9)]) (S' := none) Fr_216 (by decide) (fun _ h => h) (Or.inr rfl)) (gF.mo (F' := [(5, 13), (5, 14), (5, 19)]) (C' := [(5, 9)]) (S' := none) Fr_225 (by decide) (fun _ h => absurd h List.not_mem_nil) (Or.inl rfl)))))) (by decide) (by decide) (by decide) (by decide) (by decide) (by decide) (by decide) (by decide) (by decide) tk2
        have tq_230 : arP g ws_223 h0 := arP_mo ((gF.tr (gF.mo (F' := [(5, 13), (5, 14), (5, 19)]) (C' := [(5, 9)]) (S' := none) Fr_11 (by decide) (fun _ h => absurd h List.not_mem_nil) (Or.inr rfl)) (gF.tr (gF.mo (F' := [(5, 13), (5, 14), (5, 19)]) (C' := [(5, 9)]) (S' := none) Fr_208 (by decide) (fun _ h => absurd h List.not_mem_nil) (Or.inr rfl)) (gF.tr (gF.mo (F' := [(5, 13), (5, 14), (5, 19)]) (C' := [(5, 9)]) (S' := none) Fr_216 (by decide) (fun _ h => h) (Or.inr rfl)) (gF.mo (F' := [(5, 13), (5, 14), (5, 19)]) (C' := [(5, 9)]) (S' := none) Fr_225 (by decide) (fun _ h => absurd h List.not_mem_nil) (Or.inl rfl)))))) ((E_10.tr (E_207.tr (E_215.tr E_224)))) (by decide) (by decide) tk3
        exact J_267 (dc_40_1) (ds_40_1) ws_223 H locs ls ((E_207.tr (E_215.tr E_224))) ((gF.tr (gF.mo (F' := [(5, 2), (5, 3), (5, 4), (5, 5), (5, 11), (5, 12), (5, 13), (5, 14), (5, 15), (5, 16), (5, 17), (5, 19)]) (C' := [(5, 1), (5, 2), (5, 4), (5, 8), (5, 9), (5, 10)]) (S' := none) Fr_208 (by decide) (fun _ h => absurd h List.not_mem_nil) (Or.inr rfl)) (gF.tr (gF.mo (F' := [(5, 2), (5, 3), (5, 4), (5, 5), (5, 11), (5, 12), (5, 13), (5, 14), (5, 15), (5, 16), (5, 17), (5, 19)]) (C' := [(5, 1), (5, 2), (5, 4), (5, 8), (5, 9), (5, 10)]) (S' := none) Fr_216 (by decide) (by decide) (Or.inr rfl)) (gF.mo (F' := [(5, 2), (5, 3), (5, 4), (5, 5), (5, 11), (5, 12), (5, 13), (5, 14), (5, 15), (5, 16), (5, 17), (5, 19)]) (C' := [(5, 1), (5, 2), (5, 4), (5, 8), (5, 9), (5, 10)]) (S' := none) Fr_225 (by decide) (fun _ h => absurd h List.not_mem_nil) (Or.inl rfl))))) hG (by omega) (by omega) tq_227 tq_228 tq_229 tq_230 (gN_of hD hk_220 (j := 12) rfl) hP hD hS (lv_sub hl [] rfl)
    · refine lv_aload_n hx hb dX5_step_47 rfl (lv_at hl 0 rfl) ?_
      refine lv_iload_n hx hb dX5_step_48 rfl (lv_at hl 1 rfl) ?_
      obtain ⟨fs9, hk_231, hq_231⟩ := ((gF.a (F' := [(5, 19)]) Fr_11 (fun _ h => h))) _ _ _ hk_1
      obtain ⟨v0_231, r1_231, n1_231, r2_231, n2_231, c3_231, r4_231, n4_231, c5_231, r6_231, n6_231, c7_231, r8_231, n8_231, r9_231, n9_231, r10_231, n10_231, c11_231, v12_231, c13_231, c14_231, c15_231, l16_231, c17_231, c18_231, c19_231, rfl, o_v0_231, F_v0_231, a_r1_231, f3_231, a_r2_231, f5_231, a_r4_231, f7_231, a_r6_231, f9_231, a_r8_231, f11_231, a_r9_231, f13_231, a_r10_231, f15_231, o_v12_231, f17_231, f18_231, f19_231, f20_231, f21_231, f22_231, f23_231, f24_231, f25_231, f26_231, f27_231, f28_231, f29_231, f30_231, f31_231, -⟩ := (hG.1 _ _ _ _ hk_231).hX5 rfl
      have hn9 := fe_qr (hq_231 0 (by decide))
      subst hn9
      have o_b_2 := o_v0_231 _ rfl
      have F_b_2 := F_v0_231 _ rfl
      have hn9 := fe_qr (hq_231 12 (by decide))
      subst hn9
      have o_b_3 := o_v12_231 _ rfl
      obtain rfl := fe_i (hq_231 13 (by decide))
      obtain rfl := fe_i (hq_231 14 (by decide))
      have tq_232 : frP g ws_9 h0 := frP_mo (Fr_11) (by decide) (by decide) (by decide) (by decide) (by decide) tk0
      have tq_233 : swU ws_9 h0 := swU_mo (Fr_11) (by decide) (by decide) (by decide) (by decide) (by decide) (by decide) (by decide) (by decide) (by decide) (by decide) (by decide) tk1
      have tq_234 : swC ws_9 h0 := swC_mo (Fr_11) (by decide) (by decide) (by decide) (by decide) (by decide) (by decide) (by decide) (by decide) (by decide) tk2
      have tq_235 : arP g ws_9 h0 := arP_mo (Fr_11) (E_10) (by decide) (by decide) tk3
      have hFc := gfree hD hS hA
      refine va_callv (va_runV (As := [.int r_5]) (rest := []) ⟨hx, hb, hml, hown, hts⟩ (m_X5_calculate l g H.size ws_9 h0 (r_5) hG o_h0 (gN_of hD hk_231 (j := 0) rfl) (gN_of hD hk_231 (j := 12) rfl) tq_232 tq_233 tq_234 tq_235) (cwV 1 hts (gd_V kw_1166 kw_1012 kw_1013 kw_398 kw_1011) rfl rfl rfl (by decide +kernel) ⟨Nat.le_of_ble_eq_true rfl, Nat.le_of_ble_eq_true rfl⟩) ⟨gblind, va_recv hK hP (ci := 5) (q0 := k_1) rfl hk_231, fun U hU hW9 => gmk hU hW9 hP hK hD hex hE hS hFc⟩ rfl rfl hl.1 rfl (lv_room (Nat.le_of_ble_eq_true rfl)) dX5_step_49 ⟨(show dc_40_1 + 0 ≤ PC ws + (0) from (by omega)), (show ds_40_1 + 0 ≤ PS ws + (0) from (by omega))⟩) hS (fun q _ h => hFc q h) hFc (fun  ws_236 t9 H1 locs ht9 hvm9 hw9 hB9 hz9 hk9 hS => ?_)
      obtain ⟨E_237, Fr_238, hG, hP1, hD1⟩ := hB9
      have hP : va_P (gD g) cl0 ws_236 H1 := by rw [← ht9]; exact hP1
      have hD : va_D A ws_236 := hD1.weaken (fun _ _ _ h => hFc _ h)
      obtain ⟨hw9, xp_241, xp_242, xp_243, xp_244, xp_245, xp_246⟩ := hw9
      clear hP1 hD1 hz9 hk9 hvm9 ht9 hw9
      generalize H1 = H at hP hS ⊢
      have aa_247 := a_r1_231
      have aa_248 := a_r2_231
      have aa_249 := a_r4_231
      have aa_250 := a_r6_231
      have aa_251 := a_r8_231
      have aa_252 := a_r9_231
      have aa_253 := a_r10_231
      have o_h0 := E_237.1 _ _ o_h0
      have pp_254 := Fr_238.pp
      obtain ⟨fs9, hk_255, hq_255⟩ := ((gF.a (F' := [(5, 11), (5, 12), (5, 13), (5, 14), (5, 15), (5, 17), (5, 19)]) Fr_238 (fun _ h => h))) _ _ _ hk_231
      obtain ⟨v0_255, r1_255, n1_255, r2_255, n2_255, c3_255, r4_255, n4_255, c5_255, r6_255, n6_255, c7_255, r8_255, n8_255, r9_255, n9_255, r10_255, n10_255, c11_255, v12_255, c13_255, c14_255, c15_255, l16_255, c17_255, c18_255, c19_255, rfl, o_v0_255, F_v0_255, a_r1_255, f3_255, a_r2_255, f5_255, a_r4_255, f7_255, a_r6_255, f9_255, a_r8_255, f11_255, a_r9_255, f13_255, a_r10_255, f15_255, o_v12_255, f17_255, f18_255, f19_255, f20_255, f21_255, f22_255, f23_255, f24_255, f25_255, f26_255, f27_255, f28_255, f29_255, f30_255, f31_255, -⟩ := (hG.1 _ _ _ _ hk_255).hX5 rfl
      have hn9 := fe_qr (hq_255 0 (by decide))
      subst hn9
      have o_b_2 := o_v0_255 _ rfl
      have F_b_2 := F_v0_255 _ rfl
      obtain ⟨b_256, hn9⟩ := xp_242 _ _ _ hk_255
      have hn9 := fe_qr hn9
      subst hn9
      have o_b_256 := o_v12_255 _ rfl
      refine lv_goto (tgt := 267) hx hb dX5_step_52 (by decide) ?_
      exact J_267 (dc_40_1) (ds_40_1) ws_236 H locs ls (E_237) ((gF.mo (F' := [(5, 2), (5, 3), (5, 4), (5, 5), (5, 11), (5, 12), (5, 13), (5, 14), (5, 15), (5, 16), (5, 17), (5, 19)]) (C' := [(5, 1), (5, 2), (5, 4), (5, 8), (5, 9), (5, 10)]) (S' := none) Fr_238 (by decide) (by decide) (Or.inr rfl))) hG (by omega) (by omega) xp_243 xp_244 xp_245 xp_246 (gN_of hD hk_255 (j := 12) rfl) hP hD hS (lv_sub hl [] rfl)
  refine lv_icmp_eq (tgt := 40) hx hb dX5_step_27 (by decide) (fun c_257 => ?_) (fun c_257 => ?_)
  · exact J_40 (0) (0) ws H locs ls (gE.rf) (gF.rf) hG (by have e0 : (0 : Int32).toInt = 0 := (by decide); omega) (by have e0 : (0 : Int32).toInt = 0 := (by decide); omega) hP hD hS (lv_sub hl [1, 0] rfl)
  · refine lv_aload_n hx hb dX5_step_30 rfl (lv_at hl 1 rfl) ?_
    refine lv_dup hx hb dX5_step_31 rfl ?_
    refine va_get (D := gD g) (ci := 5) (v := .int c19_1) (C := RX5) (T := TX5) (N := 20) hx hb hts inX5 hown hK hP k_1 hk_1 rfl 19 (by decide) (hts _ kw_1045) (fun _ h9 => h9) rfl dX5_step_32 ?_
    refine lv_iconst (v := 1) hx hb dX5_step_35 (by decide) ?_
    refine lv_iadd hx hb dX5_step_36 ?_
    refine lv_topi (fun z_258 ez_258 => ?_)
    have hV9 : okv ws 5 19 (.int z_258) := okv_i
    refine va_put (D := gD g) (ci := 5) (v := .int z_258) (ty := .int) (C := RX5) (T := TX5) (N := 20) hx hb hts inX5 tyX5 tyX5_ok nmX5 hown hK hP hD hS k_1 hk_1 rfl 19 (by decide) (hts _ kw_1045) (fun _ h9 => h9) rfl (by decide +kernel) rfl rfl (Nat.le_of_ble_eq_true rfl) dX5_step_37 (fun H locs hP hD hS => ?_)
    have hi_259 : invX5 g ws h0 [.ref b_2, .ref r1_1, .ref r2_1, .int c3_1, .ref r4_1, .int c5_1, .ref r6_1, .int c7_1, .ref r8_1, .ref r9_1, .ref r10_1, .int c11_1, .ref b_3, .int c13_1, .int c14_1, .int c15_1, .long l16_1, .int c17_1, .int c18_1, .int z_258] := ⟨(some b_2), r1_1, (n1_1), r2_1, (n2_1), (c3_1), r4_1, (n4_1), (c5_1), r6_1, (n6_1), (c7_1), r8_1, (n8_1), r9_1, (n9_1), r10_1, (n10_1), (c11_1), (some b_3), (c13_1), (c14_1), (c15_1), (l16_1), (c17_1), (c18_1), (z_258), rfl, (fun b h9 => by cases h9; exact o_b_2), (fun b h9 => by cases h9; exact F_b_2), a_r1_1, f3_1, a_r2_1, f5_1, a_r4_1, f7_1, a_r6_1, f9_1, a_r8_1, f11_1, a_r9_1, f13_1, a_r10_1, f15_1, (fun b h9 => by cases h9; exact o_b_3), f17_1, f18_1, f19_1, f20_1, f21_1, f22_1, f23_1, f24_1, f25_1, f26_1, f27_1, f28_1, f29_1, f30_1, f31_1, trivial⟩
    obtain ⟨ws_260, e_ws_260⟩ : ∃ z, z = ws.set k_1 (h0, .inr (5, [.ref b_2, .ref r1_1, .ref r2_1, .int c3_1, .ref r4_1, .int c5_1, .ref r6_1, .int c7_1, .ref r8_1, .ref r9_1, .ref r10_1, .int c11_1, .ref b_3, .int c13_1, .int c14_1, .int c15_1, .long l16_1, .int c17_1, .int c18_1, .int z_258])) := ⟨_, rfl⟩
    have hP : va_P (gD g) cl0 ws_260 H := by rw [e_ws_260]; exact hP
    have hD : va_D A ws_260 := by rw [e_ws_260]; exact hD
    have E_261 : gE ws ws_260 := gE_set e_ws_260 hk_1 (cw_o (fi := 19) (v := .int z_258) rfl (by decide))
    have hG : Good g ws_260 := Good_set (fi := 19) (v := .int z_258) e_ws_260 hk_1 E_261 rfl hV9 hG (ivX5 hi_259)
    have Fr_262 : gF [(5, 19)] [] (some h0) ws ws_260 := gF_put (fi := 19) (v := .int z_258) e_ws_260 hk_1 rfl (by decide)
    have pp_263 := Fr_262.pp
    have hkN := gset_self e_ws_260 hk_1
    have hk_1 := hkN
    have o_h0 := E_261.1 _ _ o_h0
    have a_r1_1 := E_261.1 _ _ a_r1_1
    have a_r2_1 := E_261.1 _ _ a_r2_1
    have a_r4_1 := E_261.1 _ _ a_r4_1
    have a_r6_1 := E_261.1 _ _ a_r6_1
    have a_r8_1 := E_261.1 _ _ a_r8_1
    have a_r9_1 := E_261.1 _ _ a_r9_1
    have a_r10_1 := E_261.1 _ _ a_r10_1
    have o_b_2 := E_261.1 _ _ o_b_2
    have F_b_2 := F_b_2.mo E_261
    have o_b_3 := E_261.1 _ _ o_b_3
    exact J_40 (0) (0) ws_260 H locs ls (E_261) ((gF.mo (F' := [(5, 19)]) (C' := []) (S' := none) Fr_262 (fun _ h => h) (fun _ h => h) (Or.inl rfl))) hG (by have e0 : (0 : Int32).toInt = 0 := (by decide); omega) (by have e0 : (0 : Int32).toInt = 0 := (by decide); omega) hP hD hS (lv_sub hl [1, 0] rfl)
