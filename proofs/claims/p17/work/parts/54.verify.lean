set_option maxHeartbeats 1000000 in
set_option maxRecDepth 100000 in
theorem m_X12_verify (l : Launch) (g : Gm) (H0 : Heap) (ws : va_W) (h0 : Nat) (x1 : Int32) (hG : Good g ws) (o_h0 : gC ws h0 11) : Met l yX12_verify (wt yX12_verify cX12_verify 4 (some .int)) ({ frames := 7, cells := PC ws + (72), slots := PS ws + (93312), locals := 157 }) (va_Pc [.ref h0, .int x1] (st_H g H0 ws)) (va_Qi (fun (r : Int32) (u9 : va_W) => True) (gQ2 g [(1, 1), (1, 2), (1, 3), (1, 5), (1, 6), (1, 7), (1, 8), (1, 9), (4, 0), (4, 1), (4, 2), (4, 3), (4, 4), (4, 5), (4, 6), (4, 7), (7, 12), (7, 13), (7, 14), (9, 15), (9, 16), (9, 17), (11, 15), (11, 16)] [(1, 1), (1, 2), (1, 3), (1, 4), (4, 0), (4, 1), (4, 2), (7, 12), (7, 13), (7, 14)] none (va_A ws H0.size) ws H0 (72) (93312)) (va_A ws H0.size)) (PC ws + (72)) (PS ws + (93312)) (va_A ws H0.size) := by
  refine Met.ofW (cc := cX12_verify) (maxL := 4) (ret := (some .int)) (by decide) rfl ?_
  intro p e s m args below meth c s₁ B hml hv
  obtain ⟨rfl, hH0, hsz, hP, hK, hD0, hex, hE⟩ := hv
  have hx := B.exec
  have hb := B.bytes
  have hr := B.returns
  have hts0 := atoms_spec (ws := wt yX12_verify cX12_verify 4 (some .int)) B.pre
  have hts : ∀ w ∈ tb, w.before _ s = true := fun w h => hts0 w (List.mem_cons_of_mem _ h)
  have hown : s.vm.findClass RX12 = some m.cls := findClass_of_methodNamed B.named
  subst hH0
  have hD := hD0.self (sz := s.heap.size)
  generalize hAe : va_A ws s.heap.size = A at hD hE ⊢
  have hA : ∀ q : Nat, s.heap.size ≤ q → A q := fun q h => by rw [← hAe]; exact Or.inr h
  have hS : va_S A s.heap s.heap [] := va_S.rf
  have hl := lv_entry ([.ref h0, .int x1]) (n := 4) (Nat.le_of_ble_eq_true rfl)
  rw [lg_entry_eq]
  generalize (lg_sl ([.ref h0, .int x1]) ++ List.replicate (4 - (lg_sl ([.ref h0, .int x1])).length) Slot.unset).toArray = ls at hl ⊢
  have hl : lv_has ls 4 [(0, .ref h0), (1, .int x1)] := hl
  refine lv_aload_n hx hb dX12_verify_0 rfl (lv_at hl 0 rfl) ?_
  refine lv_iconst (v := (-1)) hx hb dX12_verify_1 (by decide) ?_
  obtain ⟨k_1, fs9, hk_1⟩ := gC_of o_h0
  obtain ⟨r0_1, r1_1, r2_1, r3_1, n3_1, r4_1, r5_1, r6_1, r7_1, r8_1, r9_1, c10_1, c11_1, c12_1, c13_1, c14_1, c15_1, c16_1, c17_1, rfl, o_r0_1, o_r1_1, o_r2_1, a_r3_1, f4_1, o_r4_1, o_r5_1, o_r6_1, o_r7_1, o_r8_1, o_r9_1, f11_1, f12_1, f13_1, f14_1, f15_1, f16_1, f17_1, -⟩ := (hG.1 _ _ _ _ hk_1).hX12 rfl
  have hV9 : okv ws 11 15 (.int (-1)) := okv_i
  refine va_put (D := gD g) (ci := 11) (v := .int (-1)) (ty := .int) (C := RX12) (T := TX12) (N := 18) hx hb hts inX12 tyX12 tyX12_ok nmX12 hown hK hP hD hS k_1 hk_1 rfl 15 (by decide) (hts _ kw_405) (fun _ h9 => h9) rfl (by decide +kernel) rfl rfl (Nat.le_of_ble_eq_true rfl) dX12_verify_2 (fun H locs hP hD hS => ?_)
  have hi_2 : invX12 g ws h0 [.ref r0_1, .ref r1_1, .ref r2_1, .ref r3_1, .ref r4_1, .ref r5_1, .ref r6_1, .ref r7_1, .ref r8_1, .ref r9_1, .int c10_1, .int c11_1, .int c12_1, .int c13_1, .int c14_1, .int (-1), .int c16_1, .int c17_1] := ⟨r0_1, r1_1, r2_1, r3_1, (n3_1), r4_1, r5_1, r6_1, r7_1, r8_1, r9_1, (c10_1), (c11_1), (c12_1), (c13_1), (c14_1), ((-1)), (c16_1), (c17_1), rfl, o_r0_1, o_r1_1, o_r2_1, a_r3_1, f4_1, o_r4_1, o_r5_1, o_r6_1, o_r7_1, o_r8_1, o_r9_1, f11_1, f12_1, f13_1, f14_1, f15_1, f16_1, f17_1, trivial⟩
  obtain ⟨ws_3, e_ws_3⟩ : ∃ z, z = ws.set k_1 (h0, .inr (11, [.ref r0_1, .ref r1_1, .ref r2_1, .ref r3_1, .ref r4_1, .ref r5_1, .ref r6_1, .ref r7_1, .ref r8_1, .ref r9_1, .int c10_1, .int c11_1, .int c12_1, .int c13_1, .int c14_1, .int (-1), .int c16_1, .int c17_1])) := ⟨_, rfl⟩
  have hP : va_P (gD g) cl0 ws_3 H := by rw [e_ws_3]; exact hP
  have hD : va_D A ws_3 := by rw [e_ws_3]; exact hD
  have E_4 : gE ws ws_3 := gE_set e_ws_3 hk_1 (cw_o (fi := 15) (v := .int (-1)) rfl (by decide))
  have hG : Good g ws_3 := Good_set (fi := 15) (v := .int (-1)) e_ws_3 hk_1 E_4 rfl hV9 hG (ivX12 hi_2)
  have Fr_5 : gF [(11, 15)] [] (some h0) ws ws_3 := gF_put (fi := 15) (v := .int (-1)) e_ws_3 hk_1 rfl (by decide)
  have pp_6 := Fr_5.pp
  have hkN := gset_self e_ws_3 hk_1
  have hk_1 := hkN
  have o_h0 := E_4.1 _ _ o_h0
  have o_r0_1 := E_4.1 _ _ o_r0_1
  have o_r1_1 := E_4.1 _ _ o_r1_1
  have o_r2_1 := E_4.1 _ _ o_r2_1
  have a_r3_1 := E_4.1 _ _ a_r3_1
  have o_r4_1 := E_4.1 _ _ o_r4_1
  have o_r5_1 := E_4.1 _ _ o_r5_1
  have o_r6_1 := E_4.1 _ _ o_r6_1
  have o_r7_1 := E_4.1 _ _ o_r7_1
  have o_r8_1 := E_4.1 _ _ o_r8_1
  have o_r9_1 := E_4.1 _ _ o_r9_1
  refine lv_aload_n hx hb dX12_verify_5 rfl (lv_at hl 0 rfl) ?_
  refine lv_iconst (v := (-1)) hx hb dX12_verify_6 (by decide) ?_
  have hV9 : okv ws_3 11 16 (.int (-1)) := okv_i
  refine va_put (D := gD g) (ci := 11) (v := .int (-1)) (ty := .int) (C := RX12) (T := TX12) (N := 18) hx hb hts inX12 tyX12 tyX12_ok nmX12 hown hK hP hD hS k_1 hk_1 rfl 16 (by decide) (hts _ kw_295) (fun _ h9 => h9) rfl (by decide +kernel) rfl rfl (Nat.le_of_ble_eq_true rfl) dX12_verify_7 (fun H locs hP hD hS => ?_)
  have hi_7 : invX12 g ws_3 h0 [.ref r0_1, .ref r1_1, .ref r2_1, .ref r3_1, .ref r4_1, .ref r5_1, .ref r6_1, .ref r7_1, .ref r8_1, .ref r9_1, .int c10_1, .int c11_1, .int c12_1, .int c13_1, .int c14_1, .int (-1), .int (-1), .int c17_1] := ⟨r0_1, r1_1, r2_1, r3_1, (n3_1), r4_1, r5_1, r6_1, r7_1, r8_1, r9_1, (c10_1), (c11_1), (c12_1), (c13_1), (c14_1), ((-1)), ((-1)), (c17_1), rfl, o_r0_1, o_r1_1, o_r2_1, a_r3_1, f4_1, o_r4_1, o_r5_1, o_r6_1, o_r7_1, o_r8_1, o_r9_1, f11_1, f12_1, f13_1, f14_1, f15_1, f16_1, f17_1, trivial⟩
  obtain ⟨ws_8, e_ws_8⟩ : ∃ z, z = ws_3.set k_1 (h0, .inr (11, [.ref r0_1, .ref r1_1, .ref r2_1, .ref r3_1, .ref r4_1, .ref r5_1, .ref r6_1, .ref r7_1, .ref r8_1, .ref r9_1, .int c10_1, .int c11_1, .int c12_1, .int c13_1, .int c14_1, .int (-1), .int (-1), .int c17_1])) := ⟨_, rfl⟩
  have hP : va_P (gD g) cl0 ws_8 H := by rw [e_ws_8]; exact hP
  have hD : va_D A ws_8 := by rw [e_ws_8]; exact hD
  have E_9 : gE ws_3 ws_8 := gE_set e_ws_8 hk_1 (cw_o (fi := 16) (v := .int (-1)) rfl (by decide))
  have hG : Good g ws_8 := Good_set (fi := 16) (v := .int (-1)) e_ws_8 hk_1 E_9 rfl hV9 hG (ivX12 hi_7)
  have Fr_10 : gF [(11, 16)] [] (some h0) ws_3 ws_8 := gF_put (fi := 16) (v := .int (-1)) e_ws_8 hk_1 rfl (by decide)
  have pp_11 := Fr_10.pp
  have hkN := gset_self e_ws_8 hk_1
  have hk_1 := hkN
  have o_h0 := E_9.1 _ _ o_h0
  have o_r0_1 := E_9.1 _ _ o_r0_1
  have o_r1_1 := E_9.1 _ _ o_r1_1
  have o_r2_1 := E_9.1 _ _ o_r2_1
  have a_r3_1 := E_9.1 _ _ a_r3_1
  have o_r4_1 := E_9.1 _ _ o_r4_1
  have o_r5_1 := E_9.1 _ _ o_r5_1
  have o_r6_1 := E_9.1 _ _ o_r6_1
  have o_r7_1 := E_9.1 _ _ o_r7_1
  have o_r8_1 := E_9.1 _ _ o_r8_1
  have o_r9_1 := E_9.1 _ _ o_r9_1
  refine lv_aload_n hx hb dX12_verify_10 rfl (lv_at hl 0 rfl) ?_
  refine lv_iload_n hx hb dX12_verify_11 rfl (lv_at hl 1 rfl) ?_
  have hFc := gfree hD hS hA
  refine va_callq (va_runV (As := [.int x1]) (rest := []) ⟨hx, hb, hml, hown, hts⟩ (m_X12_unitAt l g H.size ws_8 h0 (x1) hG o_h0) (cwV 1 hts (gd_V kw_431 kw_464 kw_465 kw_280 kw_463) rfl rfl rfl (by decide +kernel) ⟨Nat.le_of_ble_eq_true rfl, Nat.le_of_ble_eq_true rfl⟩) ⟨gblind, va_recv hK hP (ci := 11) (q0 := k_1) rfl hk_1, fun U hU hW9 => gmk hU hW9 hP hK hD hex hE hS hFc⟩ rfl rfl hl.1 rfl (lv_room (Nat.le_of_ble_eq_true rfl)) dX12_verify_12 ⟨(show 0 + 0 ≤ PC ws + (72) from (by have e0 : (0 : Int32).toInt = 0 := (by decide); omega)), (show 0 + 0 ≤ PS ws + (93312) from (by have e0 : (0 : Int32).toInt = 0 := (by decide); omega))⟩) hS (fun q _ h => hFc q h) hFc (fun r_12 u9 t9 H1 locs ht9 hvm9 hw9 hB9 hz9 hk9 hS => ?_)
  have hP : va_P (gD g) cl0 ws_8 H1 := by rw [← ht9]; exact hB9.1
  have o_r_12 := hw9
  clear hB9 hz9 hk9 hvm9 ht9 hw9
  generalize H1 = H at hP hS ⊢
  have F_r_12 := fun b h => (o_r_12 b h).2
  have o_r_12 := fun b h => (o_r_12 b h).1
  rcases r_12 with _ | b_13
  · skip
    refine lv_astore_nN (lv' := [(2, .null), (0, .ref h0), (1, .int x1)]) hx hb dX12_verify_15 rfl hl (by decide) rfl (fun ls hl => ?_)
    refine lv_aload_nN hx hb dX12_verify_16 rfl (lv_at hl 0 rfl) ?_
    refine lv_ifnonnullN hx hb dX12_verify_17 ?_
    refine lv_iconst (v := (-1)) hx hb dX12_verify_20 (by decide) ?_
    refine W_led (fun hLd => ?_)
    have hcl : 0 + PC ws_8 ≤ PC ws + (72) := (by have e0 : (0 : Int32).toInt = 0 := (by decide); omega)
    have hsl : 0 + PS ws_8 ≤ PS ws + (93312) := (by have e0 : (0 : Int32).toInt = 0 := (by decide); omega)
    refine W.widen (k := PC ws + (72)) (n := PS ws + (93312)) (by omega) (by omega) ?_
    exact W.iret (v := (-1)) hx hb hr (fun t9 ht9 hW9 => ⟨⟨_, ws_8, rfl, trivial, ⟨(E_4.tr E_9), (gF.tr (gF.mo (F' := [(1, 1), (1, 2), (1, 3), (1, 5), (1, 6), (1, 7), (1, 8), (1, 9), (4, 0), (4, 1), (4, 2), (4, 3), (4, 4), (4, 5), (4, 6), (4, 7), (7, 12), (7, 13), (7, 14), (9, 15), (9, 16), (9, 17), (11, 15), (11, 16)]) (C' := [(1, 1), (1, 2), (1, 3), (1, 4), (4, 0), (4, 1), (4, 2), (7, 12), (7, 13), (7, 14)]) (S' := none) Fr_5 (by decide) (fun _ h => absurd h List.not_mem_nil) (Or.inl rfl)) (gF.mo (F' := [(1, 1), (1, 2), (1, 3), (1, 5), (1, 6), (1, 7), (1, 8), (1, 9), (4, 0), (4, 1), (4, 2), (4, 3), (4, 4), (4, 5), (4, 6), (4, 7), (7, 12), (7, 13), (7, 14), (9, 15), (9, 16), (9, 17), (11, 15), (11, 16)]) (C' := [(1, 1), (1, 2), (1, 3), (1, 4), (4, 0), (4, 1), (4, 2), (7, 12), (7, 13), (7, 14)]) (S' := none) Fr_10 (by decide) (fun _ h => absurd h List.not_mem_nil) (Or.inl rfl))), hG, by rw [ht9]; exact hP, hD, _, _, by rw [ht9]; exact hLd, hcl, hsl⟩⟩, hS.F ht9⟩) hS.2.2 dX12_verify_21
  · have o_b_13 := o_r_12 _ rfl
    have F_b_13 := F_r_12 _ rfl
    refine lv_astore_n (lv' := [(2, .ref b_13), (0, .ref h0), (1, .int x1)]) hx hb dX12_verify_15 rfl hl (by decide) rfl (fun ls hl => ?_)
    refine lv_aload_n hx hb dX12_verify_16 rfl (lv_at hl 0 rfl) ?_
    refine lv_ifnonnull (tgt := 22) hx hb dX12_verify_17 (by decide) ?_
    refine lv_iconst (v := 0) hx hb dX12_verify_22 (by decide) ?_
    refine lv_istore_n (lv' := [(3, .int 0), (2, .ref b_13), (0, .ref h0), (1, .int x1)]) hx hb dX12_verify_23 rfl hl (by decide) rfl (fun ls hl => ?_)
    have J_24 : ∀ (n9 : Nat) (v3_14 : Int32) (dc_24_1 : Nat) (ds_24_1 : Nat) (ws_17 : va_W) (H : Heap) (locs : List Loc) (ls : Array Slot), (2147483647 - v3_14.toInt).toNat = n9 → 0 ≤ v3_14.toInt → v3_14.toInt ≤ 24 → gE ws_8 ws_17 → gF [(1, 1), (1, 2), (1, 3), (1, 5), (1, 6), (1, 7), (1, 8), (1, 9), (4, 0), (4, 1), (4, 2), (4, 3), (4, 4), (4, 5), (4, 6), (4, 7), (7, 12), (7, 13), (7, 14), (9, 16), (9, 17)] [(1, 1), (1, 2), (1, 3), (1, 4), (4, 0), (4, 1), (4, 2), (7, 12), (7, 13), (7, 14)] none ws_8 ws_17 → Good g ws_17 → dc_24_1 + PC ws_17 ≤ PC ws + (3 * v3_14.toInt.toNat) → ds_24_1 + PS ws_17 ≤ PS ws + (3888 * v3_14.toInt.toNat) → va_P (gD g) cl0 ws_17 H → va_D A ws_17 → va_S A s.heap H locs → lv_has ls 4 [(0, .ref h0), (2, .ref b_13), (3, .int v3_14)] → W p l e (headSpec (wt yX12_verify cX12_verify 4 (some .int)) ({ frames := 7, cells := PC ws + (72), slots := PS ws + (93312), locals := 157 })).room s m ([.ref h0, .int x1] : List Value).toArray below meth c H locs (dc_24_1) (ds_24_1) (MQ below (va_Qi (fun (r : Int32) (u9 : va_W) => True) (gQ2 g [(1, 1), (1, 2), (1, 3), (1, 5), (1, 6), (1, 7), (1, 8), (1, 9), (4, 0), (4, 1), (4, 2), (4, 3), (4, 4), (4, 5), (4, 6), (4, 7), (7, 12), (7, 13), (7, 14), (9, 15), (9, 16), (9, 17), (11, 15), (11, 16)] [(1, 1), (1, 2), (1, 3), (1, 4), (4, 0), (4, 1), (4, 2), (7, 12), (7, 13), (7, 14)] none A ws s.heap (72) (93312)) A) ([.ref h0, .int x1] : List Value).toArray s (PC ws + (72)) (PS ws + (93312)) A) (F0 m 24 ls []) := by
      intro n9
      induction n9 using Nat.strongRecOn with
      | ind n9 ih_24 =>
        intro v3_14 dc_24_1 ds_24_1 ws_17 H locs ls hm9 iv_15 iv_16 E_18 Fr_19 hG hc9 hs9 hP hD hS hl
        subst hm9
        have aa_20 := a_r3_1
        have o_h0 := E_18.1 _ _ o_h0
        have o_b_13 := E_18.1 _ _ o_b_13
        have F_b_13 := F_b_13.mo E_18
        refine lv_aload_n hx hb dX12_verify_24 rfl (lv_at hl 1 rfl) ?_
        obtain ⟨k_21, fs9, hk_21⟩ := gC_of o_b_13
        obtain ⟨r0_21, n0_21, c1_21, c2_21, c3_21, c4_21, r5_21, n5_21, r6_21, n6_21, r7_21, n7_21, c8_21, r9_21, n9_21, r10_21, n10_21, r11_21, n11_21, r12_21, n12_21, r13_21, n13_21, c14_21, c15_21, c16_21, c17_21, rfl, a_r0_21, f1_21, a_r5_21, f3_21, a_r6_21, f5_21, a_r7_21, f7_21, a_r9_21, f9_21, a_r10_21, f11_21, a_r11_21, f13_21, a_r12_21, f15_21, a_r13_21, f17_21, hz_c15_21, f19_21, f20_21, f21_21, f22_21, f23_21, f24_21, f25_21, f26_21, f27_21, f28_21, -⟩ := (hG.1 _ _ _ _ hk_21).hX10 rfl
        refine va_get (D := gD g) (ci := 9) (v := .int c15_21) (C := RX10) (T := TX10) (N := 18) hx hb hts inX10 hown hK hP k_21 hk_21 rfl 15 (by decide) (hts _ kw_449) (fun _ h9 => h9) rfl dX12_verify_25 ?_
        have J_85 : ∀ (dc_85_2 : Nat) (ds_85_2 : Nat) (H : Heap) (locs : List Loc) (ls : Array Slot), dc_85_2 + PC ws_17 ≤ PC ws + (72) → ds_85_2 + PS ws_17 ≤ PS ws + (93312) → va_P (gD g) cl0 ws_17 H → va_D A ws_17 → va_S A s.heap H locs → lv_has ls 4 [(0, .ref h0), (2, .ref b_13)] → W p l e (headSpec (wt yX12_verify cX12_verify 4 (some .int)) ({ frames := 7, cells := PC ws + (72), slots := PS ws + (93312), locals := 157 })).room s m ([.ref h0, .int x1] : List Value).toArray below meth c H locs (dc_85_2) (ds_85_2) (MQ below (va_Qi (fun (r : Int32) (u9 : va_W) => True) (gQ2 g [(1, 1), (1, 2), (1, 3), (1, 5), (1, 6), (1, 7), (1, 8), (1, 9), (4, 0), (4, 1), (4, 2), (4, 3), (4, 4), (4, 5), (4, 6), (4, 7), (7, 12), (7, 13), (7, 14), (9, 15), (9, 16), (9, 17), (11, 15), (11, 16)] [(1, 1), (1, 2), (1, 3), (1, 4), (4, 0), (4, 1), (4, 2), (7, 12), (7, 13), (7, 14)] none A ws s.heap (72) (93312)) A) ([.ref h0, .int x1] : List Value).toArray s (PC ws + (72)) (PS ws + (93312)) A) (F0 m 85 ls []) := by
          intro dc_85_2 ds_85_2 H locs ls  hc9 hs9 hP hD hS hl
          refine lv_aload_n hx hb dX12_verify_85 rfl (lv_at hl 1 rfl) ?_
          refine lv_iconst (v := 1) hx hb dX12_verify_86 (by decide) ?_
          have hV9 : okv ws_17 9 15 (.int 1) := okv_i
          refine va_put (D := gD g) (ci := 9) (v := .int 1) (ty := .boolean) (C := RX10) (T := TX10) (N := 18) hx hb hts inX10 tyX10 tyX10_ok nmX10 hown hK hP hD hS k_21 hk_21 rfl 15 (by decide) (hts _ kw_449) (fun _ h9 => h9) rfl (by decide +kernel) rfl rfl (Nat.le_of_ble_eq_true rfl) dX12_verify_87 (fun H locs hP hD hS => ?_)
          have hi_24 : invX10 g ws_17 b_13 [.ref r0_21, .int c1_21, .int c2_21, .int c3_21, .int c4_21, .ref r5_21, .ref r6_21, .ref r7_21, .int c8_21, .ref r9_21, .ref r10_21, .ref r11_21, .ref r12_21, .ref r13_21, .int c14_21, .int 1, .int c16_21, .int c17_21] := ⟨r0_21, (n0_21), (c1_21), (c2_21), (c3_21), (c4_21), r5_21, (n5_21), r6_21, (n6_21), r7_21, (n7_21), (c8_21), r9_21, (n9_21), r10_21, (n10_21), r11_21, (n11_21), r12_21, (n12_21), r13_21, (n13_21), (c14_21), (1), (c16_21), (c17_21), rfl, a_r0_21, f1_21, a_r5_21, f3_21, a_r6_21, f5_21, a_r7_21, f7_21, a_r9_21, f9_21, a_r10_21, f11_21, a_r11_21, f13_21, a_r12_21, f15_21, a_r13_21, f17_21, (Or.inr rfl), f19_21, f20_21, f21_21, f22_21, f23_21, f24_21, f25_21, f26_21, f27_21, f28_21, trivial⟩
          obtain ⟨ws_25, e_ws_25⟩ : ∃ z, z = ws_17.set k_21 (b_13, .inr (9, [.ref r0_21, .int c1_21, .int c2_21, .int c3_21, .int c4_21, .ref r5_21, .ref r6_21, .ref r7_21, .int c8_21, .ref r9_21, .ref r10_21, .ref r11_21, .ref r12_21, .ref r13_21, .int c14_21, .int 1, .int c16_21, .int c17_21])) := ⟨_, rfl⟩
          have hP : va_P (gD g) cl0 ws_25 H := by rw [e_ws_25]; exact hP
          have hD : va_D A ws_25 := by rw [e_ws_25]; exact hD
          have E_26 : gE ws_17 ws_25 := gE_set e_ws_25 hk_21 (cw_o (fi := 15) (v := .int 1) rfl (by decide))
          have hG : Good g ws_25 := Good_set (fi := 15) (v := .int 1) e_ws_25 hk_21 E_26 rfl hV9 hG (ivX10 hi_24)
          have Fr_27 : gF [(9, 15)] [] (some b_13) ws_17 ws_25 := gF_put (fi := 15) (v := .int 1) e_ws_25 hk_21 rfl (by decide)
          have pp_28 := Fr_27.pp
          have hkN := gset_self e_ws_25 hk_21
          have hk_21 := hkN
          have o_h0 := E_26.1 _ _ o_h0
          have o_b_13 := E_26.1 _ _ o_b_13
          have F_b_13 := F_b_13.mo E_26
          have a_r0_21 := E_26.1 _ _ a_r0_21
          have a_r5_21 := E_26.1 _ _ a_r5_21
          have a_r6_21 := E_26.1 _ _ a_r6_21
          have a_r7_21 := E_26.1 _ _ a_r7_21
          have a_r9_21 := E_26.1 _ _ a_r9_21
          have a_r10_21 := E_26.1 _ _ a_r10_21
          have a_r11_21 := E_26.1 _ _ a_r11_21
          have a_r12_21 := E_26.1 _ _ a_r12_21
          have a_r13_21 := E_26.1 _ _ a_r13_21
          refine lv_aload_n hx hb dX12_verify_90 rfl (lv_at hl 0 rfl) ?_
          refine lv_aload_n hx hb dX12_verify_91 rfl (lv_at hl 1 rfl) ?_
          refine va_get (D := gD g) (ci := 9) (v := .int c16_21) (C := RX10) (T := TX10) (N := 18) hx hb hts inX10 hown hK hP k_21 hk_21 rfl 16 (by decide) (hts _ kw_450) (fun _ h9 => h9) rfl dX12_verify_92 ?_
          obtain ⟨fs9, hk_29, hq_29⟩ := ((gA.tr (gF.a (F' := [(1, 1), (1, 2), (1, 3), (1, 5), (1, 6), (1, 7), (1, 8), (1, 9), (4, 0), (4, 1), (4, 2), (4, 3), (4, 4), (4, 5), (4, 6), (4, 7), (7, 12), (7, 13), (7, 14), (9, 15), (9, 16), (9, 17)]) Fr_19 (by decide)) (gF.a (F' := [(1, 1), (1, 2), (1, 3), (1, 5), (1, 6), (1, 7), (1, 8), (1, 9), (4, 0), (4, 1), (4, 2), (4, 3), (4, 4), (4, 5), (4, 6), (4, 7), (7, 12), (7, 13), (7, 14), (9, 15), (9, 16), (9, 17)]) Fr_27 (by decide)))) _ _ _ hk_1
          obtain ⟨r0_29, r1_29, r2_29, r3_29, n3_29, r4_29, r5_29, r6_29, r7_29, r8_29, r9_29, c10_29, c11_29, c12_29, c13_29, c14_29, c15_29, c16_29, c17_29, rfl, o_r0_29, o_r1_29, o_r2_29, a_r3_29, f4_29, o_r4_29, o_r5_29, o_r6_29, o_r7_29, o_r8_29, o_r9_29, f11_29, f12_29, f13_29, f14_29, f15_29, f16_29, f17_29, -⟩ := (hG.1 _ _ _ _ hk_29).hX12 rfl
          obtain rfl := fe_r (hq_29 5 (by decide))
          have o_r5_1 := o_r5_29
          obtain rfl := fe_i (hq_29 15 (by decide))
          have hV9 : okv ws_25 11 15 (.int c16_21) := okv_i
          refine va_put (D := gD g) (ci := 11) (v := .int c16_21) (ty := .int) (C := RX12) (T := TX12) (N := 18) hx hb hts inX12 tyX12 tyX12_ok nmX12 hown hK hP hD hS k_1 hk_29 rfl 15 (by decide) (hts _ kw_405) (fun _ h9 => h9) rfl (by decide +kernel) rfl rfl (Nat.le_of_ble_eq_true rfl) dX12_verify_95 (fun H locs hP hD hS => ?_)
          have hi_30 : invX12 g ws_25 h0 [.ref r0_29, .ref r1_29, .ref r2_29, .ref r3_29, .ref r4_29, .ref r5_1, .ref r6_29, .ref r7_29, .ref r8_29, .ref r9_29, .int c10_29, .int c11_29, .int c12_29, .int c13_29, .int c14_29, .int c16_21, .int c16_29, .int c17_29] := ⟨r0_29, r1_29, r2_29, r3_29, (n3_29), r4_29, r5_1, r6_29, r7_29, r8_29, r9_29, (c10_29), (c11_29), (c12_29), (c13_29), (c14_29), (c16_21), (c16_29), (c17_29), rfl, o_r0_29, o_r1_29, o_r2_29, a_r3_29, f4_29, o_r4_29, o_r5_1, o_r6_29, o_r7_29, o_r8_29, o_r9_29, f11_29, f12_29, f13_29, f14_29, f15_29, f16_29, f17_29, trivial⟩
          obtain ⟨ws_31, e_ws_31⟩ : ∃ z, z = ws_25.set k_1 (h0, .inr (11, [.ref r0_29, .ref r1_29, .ref r2_29, .ref r3_29, .ref r4_29, .ref r5_1, .ref r6_29, .ref r7_29, .ref r8_29, .ref r9_29, .int c10_29, .int c11_29, .int c12_29, .int c13_29, .int c14_29, .int c16_21, .int c16_29, .int c17_29])) := ⟨_, rfl⟩
          have hP : va_P (gD g) cl0 ws_31 H := by rw [e_ws_31]; exact hP
          have hD : va_D A ws_31 := by rw [e_ws_31]; exact hD
          have E_32 : gE ws_25 ws_31 := gE_set e_ws_31 hk_29 (cw_o (fi := 15) (v := .int c16_21) rfl (by decide))
          have hG : Good g ws_31 := Good_set (fi := 15) (v := .int c16_21) e_ws_31 hk_29 E_32 rfl hV9 hG (ivX12 hi_30)
          have Fr_33 : gF [(11, 15)] [] (some h0) ws_25 ws_31 := gF_put (fi := 15) (v := .int c16_21) e_ws_31 hk_29 rfl (by decide)
          have pp_34 := Fr_33.pp
          have hkN := gset_self e_ws_31 hk_29
          have hk_21 := gset_ob e_ws_31 hk_29 hk_21 (by decide)
          have hk_29 := hkN
          have o_h0 := E_32.1 _ _ o_h0
          have o_b_13 := E_32.1 _ _ o_b_13
          have F_b_13 := F_b_13.mo E_32
          have a_r0_21 := E_32.1 _ _ a_r0_21
          have a_r5_21 := E_32.1 _ _ a_r5_21
          have a_r6_21 := E_32.1 _ _ a_r6_21
          have a_r7_21 := E_32.1 _ _ a_r7_21
          have a_r9_21 := E_32.1 _ _ a_r9_21
          have a_r10_21 := E_32.1 _ _ a_r10_21
          have a_r11_21 := E_32.1 _ _ a_r11_21
          have a_r12_21 := E_32.1 _ _ a_r12_21
          have a_r13_21 := E_32.1 _ _ a_r13_21
          have o_r0_29 := E_32.1 _ _ o_r0_29
          have o_r1_29 := E_32.1 _ _ o_r1_29
          have o_r2_29 := E_32.1 _ _ o_r2_29
          have a_r3_29 := E_32.1 _ _ a_r3_29
          have o_r4_29 := E_32.1 _ _ o_r4_29
          have o_r6_29 := E_32.1 _ _ o_r6_29
          have o_r7_29 := E_32.1 _ _ o_r7_29
          have o_r8_29 := E_32.1 _ _ o_r8_29
          have o_r9_29 := E_32.1 _ _ o_r9_29
          have o_r5_1 := E_32.1 _ _ o_r5_1
          refine lv_aload_n hx hb dX12_verify_98 rfl (lv_at hl 0 rfl) ?_
          refine lv_aload_n hx hb dX12_verify_99 rfl (lv_at hl 1 rfl) ?_
          refine va_get (D := gD g) (ci := 9) (v := .int c17_21) (C := RX10) (T := TX10) (N := 18) hx hb hts inX10 hown hK hP k_21 hk_21 rfl 17 (by decide) (hts _ kw_470) (fun _ h9 => h9) rfl dX12_verify_100 ?_
          have hV9 : okv ws_31 11 16 (.int c17_21) := okv_i
          refine va_put (D := gD g) (ci := 11) (v := .int c17_21) (ty := .int) (C := RX12) (T := TX12) (N := 18) hx hb hts inX12 tyX12 tyX12_ok nmX12 hown hK hP hD hS k_1 hk_29 rfl 16 (by decide) (hts _ kw_295) (fun _ h9 => h9) rfl (by decide +kernel) rfl rfl (Nat.le_of_ble_eq_true rfl) dX12_verify_103 (fun H locs hP hD hS => ?_)
          have hi_35 : invX12 g ws_31 h0 [.ref r0_29, .ref r1_29, .ref r2_29, .ref r3_29, .ref r4_29, .ref r5_1, .ref r6_29, .ref r7_29, .ref r8_29, .ref r9_29, .int c10_29, .int c11_29, .int c12_29, .int c13_29, .int c14_29, .int c16_21, .int c17_21, .int c17_29] := ⟨r0_29, r1_29, r2_29, r3_29, (n3_29), r4_29, r5_1, r6_29, r7_29, r8_29, r9_29, (c10_29), (c11_29), (c12_29), (c13_29), (c14_29), (c16_21), (c17_21), (c17_29), rfl, o_r0_29, o_r1_29, o_r2_29, a_r3_29, f4_29, o_r4_29, o_r5_1, o_r6_29, o_r7_29, o_r8_29, o_r9_29, f11_29, f12_29, f13_29, f14_29, f15_29, f16_29, f17_29, trivial⟩
          obtain ⟨ws_36, e_ws_36⟩ : ∃ z, z = ws_31.set k_1 (h0, .inr (11, [.ref r0_29, .ref r1_29, .ref r2_29, .ref r3_29, .ref r4_29, .ref r5_1, .ref r6_29, .ref r7_29, .ref r8_29, .ref r9_29, .int c10_29, .int c11_29, .int c12_29, .int c13_29, .int c14_29, .int c16_21, .int c17_21, .int c17_29])) := ⟨_, rfl⟩
          have hP : va_P (gD g) cl0 ws_36 H := by rw [e_ws_36]; exact hP
          have hD : va_D A ws_36 := by rw [e_ws_36]; exact hD
          have E_37 : gE ws_31 ws_36 := gE_set e_ws_36 hk_29 (cw_o (fi := 16) (v := .int c17_21) rfl (by decide))
          have hG : Good g ws_36 := Good_set (fi := 16) (v := .int c17_21) e_ws_36 hk_29 E_37 rfl hV9 hG (ivX12 hi_35)
          have Fr_38 : gF [(11, 16)] [] (some h0) ws_31 ws_36 := gF_put (fi := 16) (v := .int c17_21) e_ws_36 hk_29 rfl (by decide)
          have pp_39 := Fr_38.pp
          have hkN := gset_self e_ws_36 hk_29
          have hk_21 := gset_ob e_ws_36 hk_29 hk_21 (by decide)
          have hk_29 := hkN
          have o_h0 := E_37.1 _ _ o_h0
          have o_b_13 := E_37.1 _ _ o_b_13
          have F_b_13 := F_b_13.mo E_37
          have a_r0_21 := E_37.1 _ _ a_r0_21
          have a_r5_21 := E_37.1 _ _ a_r5_21
          have a_r6_21 := E_37.1 _ _ a_r6_21
          have a_r7_21 := E_37.1 _ _ a_r7_21
          have a_r9_21 := E_37.1 _ _ a_r9_21
          have a_r10_21 := E_37.1 _ _ a_r10_21
          have a_r11_21 := E_37.1 _ _ a_r11_21
          have a_r12_21 := E_37.1 _ _ a_r12_21
          have a_r13_21 := E_37.1 _ _ a_r13_21
          have o_r0_29 := E_37.1 _ _ o_r0_29
          have o_r1_29 := E_37.1 _ _ o_r1_29
          have o_r2_29 := E_37.1 _ _ o_r2_29
          have a_r3_29 := E_37.1 _ _ a_r3_29
          have o_r4_29 := E_37.1 _ _ o_r4_29
          have o_r6_29 := E_37.1 _ _ o_r6_29
          have o_r7_29 := E_37.1 _ _ o_r7_29
          have o_r8_29 := E_37.1 _ _ o_r8_29
          have o_r9_29 := E_37.1 _ _ o_r9_29
          have o_r5_1 := E_37.1 _ _ o_r5_1
          refine lv_aload_n hx hb dX12_verify_106 rfl (lv_at hl 0 rfl) ?_
          refine va_get (D := gD g) (ci := 11) (v := .int c16_21) (C := RX12) (T := TX12) (N := 18) hx hb hts inX12 hown hK hP k_1 hk_29 rfl 15 (by decide) (hts _ kw_405) (fun _ h9 => h9) rfl dX12_verify_107 ?_
          have J_118 : ∀ (t_40 : Int32) (dc_118_3 : Nat) (ds_118_3 : Nat) (H : Heap) (locs : List Loc) (ls : Array Slot), t_40 = 0 ∨ t_40 = 1 → dc_118_3 + PC ws_36 ≤ PC ws + (72) → ds_118_3 + PS ws_36 ≤ PS ws + (93312) → va_P (gD g) cl0 ws_36 H → va_D A ws_36 → va_S A s.heap H locs → lv_has ls 4 [] → W p l e (headSpec (wt yX12_verify cX12_verify 4 (some .int)) ({ frames := 7, cells := PC ws + (72), slots := PS ws + (93312), locals := 157 })).room s m ([.ref h0, .int x1] : List Value).toArray below meth c H locs (dc_118_3) (ds_118_3) (MQ below (va_Qi (fun (r : Int32) (u9 : va_W) => True) (gQ2 g [(1, 1), (1, 2), (1, 3), (1, 5), (1, 6), (1, 7), (1, 8), (1, 9), (4, 0), (4, 1), (4, 2), (4, 3), (4, 4), (4, 5), (4, 6), (4, 7), (7, 12), (7, 13), (7, 14), (9, 15), (9, 16), (9, 17), (11, 15), (11, 16)] [(1, 1), (1, 2), (1, 3), (1, 4), (4, 0), (4, 1), (4, 2), (7, 12), (7, 13), (7, 14)] none A ws s.heap (72) (93312)) A) ([.ref h0, .int x1] : List Value).toArray s (PC ws + (72)) (PS ws + (93312)) A) (F0 m 118 ls [.int t_40]) := by
            intro t_40 dc_118_3 ds_118_3 H locs ls iv_41 hc9 hs9 hP hD hS hl
            have hz_t_40 := iv_41
            refine W_led (fun hLd => ?_)
            have hcl : dc_118_3 + PC ws_36 ≤ PC ws + (72) := (by have q_iv_15 := iv_15; have q_iv_16 := iv_16; have g_v3_14 := i_rg v3_14; omega)
            have hsl : ds_118_3 + PS ws_36 ≤ PS ws + (93312) := (by have q_iv_15 := iv_15; have q_iv_16 := iv_16; have g_v3_14 := i_rg v3_14; omega)
            refine W.widen (k := PC ws + (72)) (n := PS ws + (93312)) (by omega) (by omega) ?_
            exact W.iret (v := t_40) hx hb hr (fun t9 ht9 hW9 => ⟨⟨_, ws_36, rfl, trivial, ⟨(E_4.tr (E_9.tr (E_18.tr (E_26.tr (E_32.tr E_37))))), (gF.tr (gF.mo (F' := [(1, 1), (1, 2), (1, 3), (1, 5), (1, 6), (1, 7), (1, 8), (1, 9), (4, 0), (4, 1), (4, 2), (4, 3), (4, 4), (4, 5), (4, 6), (4, 7), (7, 12), (7, 13), (7, 14), (9, 15), (9, 16), (9, 17), (11, 15), (11, 16)]) (C' := [(1, 1), (1, 2), (1, 3), (1, 4), (4, 0), (4, 1), (4, 2), (7, 12), (7, 13), (7, 14)]) (S' := none) Fr_5 (by decide) (fun _ h => absurd h List.not_mem_nil) (Or.inl rfl)) (gF.tr (gF.mo (F' := [(1, 1), (1, 2), (1, 3), (1, 5), (1, 6), (1, 7), (1, 8), (1, 9), (4, 0), (4, 1), (4, 2), (4, 3), (4, 4), (4, 5), (4, 6), (4, 7), (7, 12), (7, 13), (7, 14), (9, 15), (9, 16), (9, 17), (11, 15), (11, 16)]) (C' := [(1, 1), (1, 2), (1, 3), (1, 4), (4, 0), (4, 1), (4, 2), (7, 12), (7, 13), (7, 14)]) (S' := none) Fr_10 (by decide) (fun _ h => absurd h List.not_mem_nil) (Or.inl rfl)) (gF.tr (gF.mo (F' := [(1, 1), (1, 2), (1, 3), (1, 5), (1, 6), (1, 7), (1, 8), (1, 9), (4, 0), (4, 1), (4, 2), (4, 3), (4, 4), (4, 5), (4, 6), (4, 7), (7, 12), (7, 13), (7, 14), (9, 15), (9, 16), (9, 17), (11, 15), (11, 16)]) (C' := [(1, 1), (1, 2), (1, 3), (1, 4), (4, 0), (4, 1), (4, 2), (7, 12), (7, 13), (7, 14)]) (S' := none) Fr_19 (by decide) (fun _ h => h) (Or.inr rfl)) (gF.tr (gF.mo (F' := [(1, 1), (1, 2), (1, 3), (1, 5), (1, 6), (1, 7), (1, 8), (1, 9), (4, 0), (4, 1), (4, 2), (4, 3), (4, 4), (4, 5), (4, 6), (4, 7), (7, 12), (7, 13), (7, 14), (9, 15), (9, 16), (9, 17), (11, 15), (11, 16)]) (C' := [(1, 1), (1, 2), (1, 3), (1, 4), (4, 0), (4, 1), (4, 2), (7, 12), (7, 13), (7, 14)]) (S' := none) Fr_27 (by decide) (fun _ h => absurd h List.not_mem_nil) (Or.inl rfl)) (gF.tr (gF.mo (F' := [(1, 1), (1, 2), (1, 3), (1, 5), (1, 6), (1, 7), (1, 8), (1, 9), (4, 0), (4, 1), (4, 2), (4, 3), (4, 4), (4, 5), (4, 6), (4, 7), (7, 12), (7, 13), (7, 14), (9, 15), (9, 16), (9, 17), (11, 15), (11, 16)]) (C' := [(1, 1), (1, 2), (1, 3), (1, 4), (4, 0), (4, 1), (4, 2), (7, 12), (7, 13), (7, 14)]) (S' := none) Fr_33 (by decide) (fun _ h => absurd h List.not_mem_nil) (Or.inl rfl)) (gF.mo (F' := [(1, 1), (1, 2), (1, 3), (1, 5), (1, 6), (1, 7), (1, 8), (1, 9), (4, 0), (4, 1), (4, 2), (4, 3), (4, 4), (4, 5), (4, 6), (4, 7), (7, 12), (7, 13), (7, 14), (9, 15), (9, 16), (9, 17), (11, 15), (11, 16)]) (C' := [(1, 1), (1, 2), (1, 3), (1, 4), (4, 0), (4, 1), (4, 2), (7, 12), (7, 13), (7, 14)]) (S' := none) Fr_38 (by decide) (fun _ h => absurd h List.not_mem_nil) (Or.inl rfl))))))), hG, by rw [ht9]; exact hP, hD, _, _, by rw [ht9]; exact hLd, hcl, hsl⟩⟩, hS.F ht9⟩) hS.2.2 dX12_verify_118
          refine lv_if_ge (tgt := 117) hx hb dX12_verify_110 (by decide) (fun c_44 => ?_) (fun c_44 => ?_)
          · refine lv_iconst (v := 1) hx hb dX12_verify_117 (by decide) ?_
            exact J_118 (1) (dc_85_2) (ds_85_2) H locs ls (Or.inr rfl) (by have q_iv_15 := iv_15; have q_iv_16 := iv_16; have g_v3_14 := i_rg v3_14; omega) (by have q_iv_15 := iv_15; have q_iv_16 := iv_16; have g_v3_14 := i_rg v3_14; omega) hP hD hS (lv_sub hl [] rfl)
          · refine lv_iconst (v := 0) hx hb dX12_verify_113 (by decide) ?_
            refine lv_goto (tgt := 118) hx hb dX12_verify_114 (by decide) ?_
            exact J_118 (0) (dc_85_2) (ds_85_2) H locs ls (Or.inl rfl) (by have q_iv_15 := iv_15; have q_iv_16 := iv_16; have g_v3_14 := i_rg v3_14; omega) (by have q_iv_15 := iv_15; have q_iv_16 := iv_16; have g_v3_14 := i_rg v3_14; omega) hP hD hS (lv_sub hl [] rfl)
        refine lv_if_ne (tgt := 85) hx hb dX12_verify_28 (by decide) (fun c_45 => ?_) (fun c_45 => ?_)
        · exact J_85 (dc_24_1) (ds_24_1) H locs ls (by have q_iv_15 := iv_15; have q_iv_16 := iv_16; have g_v3_14 := i_rg v3_14; omega) (by have q_iv_15 := iv_15; have q_iv_16 := iv_16; have g_v3_14 := i_rg v3_14; omega) hP hD hS (lv_sub hl [0, 1] rfl)
        · refine lv_aload_n hx hb dX12_verify_31 rfl (lv_at hl 1 rfl) ?_
          refine va_get (D := gD g) (ci := 9) (v := .int c16_21) (C := RX10) (T := TX10) (N := 18) hx hb hts inX10 hown hK hP k_21 hk_21 rfl 16 (by decide) (hts _ kw_450) (fun _ h9 => h9) rfl dX12_verify_32 ?_
          refine lv_if_ge (tgt := 85) hx hb dX12_verify_35 (by decide) (fun c_46 => ?_) (fun c_46 => ?_)
          · exact J_85 (dc_24_1) (ds_24_1) H locs ls (by have q_iv_15 := iv_15; have q_iv_16 := iv_16; have g_v3_14 := i_rg v3_14; omega) (by have q_iv_15 := iv_15; have q_iv_16 := iv_16; have g_v3_14 := i_rg v3_14; omega) hP hD hS (lv_sub hl [0, 1] rfl)
          · refine lv_iload_n hx hb dX12_verify_38 rfl (lv_at hl 2 rfl) ?_
            refine lv_aload_n hx hb dX12_verify_39 rfl (lv_at hl 1 rfl) ?_
            refine va_get (D := gD g) (ci := 9) (v := .int c8_21) (C := RX10) (T := TX10) (N := 18) hx hb hts inX10 hown hK hP k_21 hk_21 rfl 8 (by decide) (hts _ kw_323) (fun _ h9 => h9) rfl dX12_verify_40 ?_
            refine lv_icmp_ge (tgt := 85) hx hb dX12_verify_43 (by decide) (fun c_47 => ?_) (fun c_47 => ?_)
            · exact J_85 (dc_24_1) (ds_24_1) H locs ls (by have q_iv_15 := iv_15; have q_iv_16 := iv_16; have q_c_47 := i_le c_47; have q_f22_21 := f22_21; have q_f9_21 := f9_21; have q_f23_21 := f23_21; have q_f24_21 := f24_21; have q_f25_21 := f25_21; have q_f26_21 := f26_21; have q_f27_21 := f27_21; have q_f11_21 := f11_21; have q_f13_21 := f13_21; have q_f15_21 := f15_21; have q_f17_21 := f17_21; have g_c8_21 := i_rg c8_21; have g_v3_14 := i_rg v3_14; omega) (by have q_iv_15 := iv_15; have q_iv_16 := iv_16; have q_c_47 := i_le c_47; have q_f22_21 := f22_21; have q_f9_21 := f9_21; have q_f23_21 := f23_21; have q_f24_21 := f24_21; have q_f25_21 := f25_21; have q_f26_21 := f26_21; have q_f27_21 := f27_21; have q_f11_21 := f11_21; have q_f13_21 := f13_21; have q_f15_21 := f15_21; have q_f17_21 := f17_21; have g_c8_21 := i_rg c8_21; have g_v3_14 := i_rg v3_14; omega) hP hD hS (lv_sub hl [0, 1] rfl)
            · refine lv_aload_n hx hb dX12_verify_46 rfl (lv_at hl 1 rfl) ?_
              refine lv_aload_n hx hb dX12_verify_47 rfl (lv_at hl 0 rfl) ?_
              obtain ⟨fs9, hk_48, hq_48⟩ := ((gF.a (F' := [(1, 1), (1, 2), (1, 3), (1, 5), (1, 6), (1, 7), (1, 8), (1, 9), (4, 0), (4, 1), (4, 2), (4, 3), (4, 4), (4, 5), (4, 6), (4, 7), (7, 12), (7, 13), (7, 14), (9, 16), (9, 17)]) Fr_19 (fun _ h => h))) _ _ _ hk_1
              obtain ⟨r0_48, r1_48, r2_48, r3_48, n3_48, r4_48, r5_48, r6_48, r7_48, r8_48, r9_48, c10_48, c11_48, c12_48, c13_48, c14_48, c15_48, c16_48, c17_48, rfl, o_r0_48, o_r1_48, o_r2_48, a_r3_48, f4_48, o_r4_48, o_r5_48, o_r6_48, o_r7_48, o_r8_48, o_r9_48, f11_48, f12_48, f13_48, f14_48, f15_48, f16_48, f17_48, -⟩ := (hG.1 _ _ _ _ hk_48).hX12 rfl
              obtain rfl := fe_r (hq_48 5 (by decide))
              have o_r5_1 := o_r5_48
              obtain rfl := fe_i (hq_48 15 (by decide))
              refine va_get (D := gD g) (ci := 11) (v := .ref r5_1) (C := RX12) (T := TX12) (N := 18) hx hb hts inX12 hown hK hP k_1 hk_48 rfl 5 (by decide) (hts _ kw_393) (fun _ h9 => h9) rfl dX12_verify_48 ?_
              refine lv_aload_n hx hb dX12_verify_51 rfl (lv_at hl 1 rfl) ?_
              refine lv_aload_n hx hb dX12_verify_52 rfl (lv_at hl 1 rfl) ?_
              refine lv_iload_n hx hb dX12_verify_53 rfl (lv_at hl 2 rfl) ?_
              have hFc := gfree hD hS hA
              refine va_callq (va_runV (As := [.int v3_14]) (rest := [.ref b_13, .ref r5_1, .ref b_13]) ⟨hx, hb, hml, hown, hts⟩ (m_X10_rowAt l g H.size ws_17 b_13 (v3_14) hG o_b_13) (cwV 1 hts (gd_V kw_324 kw_70 kw_71 kw_34 kw_69) rfl rfl rfl (by decide +kernel) ⟨Nat.le_of_ble_eq_true rfl, Nat.le_of_ble_eq_true rfl⟩) ⟨gblind, va_recv hK hP (ci := 9) (q0 := k_21) rfl hk_21, fun U hU hW9 => gmk hU hW9 hP hK hD hex hE hS hFc⟩ rfl rfl hl.1 rfl (lv_room (Nat.le_of_ble_eq_true rfl)) dX12_verify_54 ⟨(show dc_24_1 + 0 ≤ PC ws + (72) from (by have q_iv_15 := iv_15; have q_iv_16 := iv_16; have q_c_47 := i_nle c_47; have q_f22_21 := f22_21; have q_f9_21 := f9_21; have q_f23_21 := f23_21; have q_f24_21 := f24_21; have q_f25_21 := f25_21; have q_f26_21 := f26_21; have q_f27_21 := f27_21; have q_f11_21 := f11_21; have q_f13_21 := f13_21; have q_f15_21 := f15_21; have q_f17_21 := f17_21; have g_c8_21 := i_rg c8_21; have g_v3_14 := i_rg v3_14; omega)), (show ds_24_1 + 0 ≤ PS ws + (93312) from (by have q_iv_15 := iv_15; have q_iv_16 := iv_16; have q_c_47 := i_nle c_47; have q_f22_21 := f22_21; have q_f9_21 := f9_21; have q_f23_21 := f23_21; have q_f24_21 := f24_21; have q_f25_21 := f25_21; have q_f26_21 := f26_21; have q_f27_21 := f27_21; have q_f11_21 := f11_21; have q_f13_21 := f13_21; have q_f15_21 := f15_21; have q_f17_21 := f17_21; have g_c8_21 := i_rg c8_21; have g_v3_14 := i_rg v3_14; omega))⟩) hS (fun q _ h => hFc q h) hFc (fun r_49 u9 t9 H1 locs ht9 hvm9 hw9 hB9 hz9 hk9 hS => ?_)
              have hP : va_P (gD g) cl0 ws_17 H1 := by rw [← ht9]; exact hB9.1
              obtain ⟨o_r_49, h_r_49⟩ := id hw9
              clear hB9 hz9 hk9 hvm9 ht9 hw9
              generalize H1 = H at hP hS ⊢
              rcases r_49 with _ | b_50
              · skip
                have hFc := gfree hD hS hA
                refine W_led (fun hL0 => ?_)
                obtain ⟨k_51, fs_51, hk_51⟩ := gC_of o_r5_1
                refine va_calli (va_runV (As := [.ref b_13, .null]) (rest := [.ref b_13]) ⟨hx, hb, hml, hown, hts⟩ (m_X1_firstFault_N l g H ws_17 r5_1 b_13 hG o_r5_1 o_b_13) (cwV 2 hts (gd_V kw_469 kw_500 kw_501 kw_392 kw_499) rfl rfl rfl (by decide +kernel) ⟨Nat.le_of_ble_eq_true rfl, Nat.le_of_ble_eq_true rfl⟩) ⟨gblindH, va_recv hK hP (ci := 1) (q0 := k_51) rfl hk_51, fun U hU hW9 => gmkH hU hW9 hP hK hD hex hE hS hFc⟩ rfl rfl hl.1 rfl (lv_room (Nat.le_of_ble_eq_true rfl)) dX12_verify_57 ⟨(show dc_24_1 + (PC ws_17 + (0)) ≤ PC ws + (72) from (by have e0 : (0 : Int32).toInt = 0 := (by decide); have q_iv_15 := iv_15; have q_iv_16 := iv_16; have q_c_47 := i_nle c_47; have q_f22_21 := f22_21; have q_f9_21 := f9_21; have q_f23_21 := f23_21; have q_f24_21 := f24_21; have q_f25_21 := f25_21; have q_f26_21 := f26_21; have q_f27_21 := f27_21; have q_f11_21 := f11_21; have q_f13_21 := f13_21; have q_f15_21 := f15_21; have q_f17_21 := f17_21; have g_c8_21 := i_rg c8_21; have g_v3_14 := i_rg v3_14; omega)), (show ds_24_1 + (PS ws_17 + (0)) ≤ PS ws + (93312) from (by have e0 : (0 : Int32).toInt = 0 := (by decide); have q_iv_15 := iv_15; have q_iv_16 := iv_16; have q_c_47 := i_nle c_47; have q_f22_21 := f22_21; have q_f9_21 := f9_21; have q_f23_21 := f23_21; have q_f24_21 := f24_21; have q_f25_21 := f25_21; have q_f26_21 := f26_21; have q_f27_21 := f27_21; have q_f11_21 := f11_21; have q_f13_21 := f13_21; have q_f15_21 := f15_21; have q_f17_21 := f17_21; have g_c8_21 := i_rg c8_21; have g_v3_14 := i_rg v3_14; omega))⟩) hS (fun q _ h => hFc q h) hFc (fun r_52 ws_53 t9 H1 locs ht9 hvm9 hw9 hB9 hz9 hk9 hS => ?_)
                obtain ⟨E_54, Fr_55, hG, hP1, hD1, dc_56, ds_57, hLd, hdc_56, hds_57⟩ := hB9
                rw [ht9] at hLd
                refine W_tight (hL0.tr hLd).1 (hL0.tr hLd).2.1 ?_
                clear hL0 hLd
                have hP : va_P (gD g) cl0 ws_53 H1 := by rw [← ht9]; exact hP1
                have hD : va_D A ws_53 := hD1.weaken (fun _ _ _ h => hFc _ h)
                clear hP1 hD1 hz9 hk9 hvm9 ht9 hw9
                generalize H1 = H at hP hS ⊢
                have aa_58 := a_r0_21
                have aa_59 := a_r5_21
                have aa_60 := a_r6_21
                have aa_61 := a_r7_21
                have aa_62 := a_r9_21
                have aa_63 := a_r10_21
                have aa_64 := a_r11_21
                have aa_65 := a_r12_21
                have aa_66 := a_r13_21
                have aa_67 := a_r3_48
                have o_h0 := E_54.1 _ _ o_h0
                have o_b_13 := E_54.1 _ _ o_b_13
                have F_b_13 := F_b_13.mo E_54
                obtain ⟨fs9, hk_68, hq_68⟩ := ((gF.a (F' := [(1, 1), (1, 2), (1, 3), (1, 5), (1, 6), (1, 7), (1, 8), (1, 9), (4, 0), (4, 1), (4, 2), (4, 3), (4, 4), (4, 5), (4, 6), (4, 7), (7, 12), (7, 13), (7, 14)]) Fr_55 (fun _ h => h))) _ _ _ hk_21
                obtain ⟨r0_68, n0_68, c1_68, c2_68, c3_68, c4_68, r5_68, n5_68, r6_68, n6_68, r7_68, n7_68, c8_68, r9_68, n9_68, r10_68, n10_68, r11_68, n11_68, r12_68, n12_68, r13_68, n13_68, c14_68, c15_68, c16_68, c17_68, rfl, a_r0_68, f1_68, a_r5_68, f3_68, a_r6_68, f5_68, a_r7_68, f7_68, a_r9_68, f9_68, a_r10_68, f11_68, a_r11_68, f13_68, a_r12_68, f15_68, a_r13_68, f17_68, hz_c15_68, f19_68, f20_68, f21_68, f22_68, f23_68, f24_68, f25_68, f26_68, f27_68, f28_68, -⟩ := (hG.1 _ _ _ _ hk_68).hX10 rfl
                obtain rfl := fe_i (hq_68 8 (by decide))
                obtain rfl := fe_i (hq_68 15 (by decide))
                have hz_c15_21 := hz_c15_68
                obtain rfl := fe_i (hq_68 16 (by decide))
                obtain rfl := fe_i (hq_68 17 (by decide))
                have hV9 : okv ws_53 9 17 (.int r_52) := okv_i
                refine va_put (D := gD g) (ci := 9) (v := .int r_52) (ty := .int) (C := RX10) (T := TX10) (N := 18) hx hb hts inX10 tyX10 tyX10_ok nmX10 hown hK hP hD hS k_21 hk_68 rfl 17 (by decide) (hts _ kw_470) (fun _ h9 => h9) rfl (by decide +kernel) rfl rfl (Nat.le_of_ble_eq_true rfl) dX12_verify_60 (fun H locs hP hD hS => ?_)
                have hi_69 : invX10 g ws_53 b_13 [.ref r0_68, .int c1_68, .int c2_68, .int c3_68, .int c4_68, .ref r5_68, .ref r6_68, .ref r7_68, .int c8_21, .ref r9_68, .ref r10_68, .ref r11_68, .ref r12_68, .ref r13_68, .int c14_68, .int c15_21, .int c16_21, .int r_52] := ⟨r0_68, (n0_68), (c1_68), (c2_68), (c3_68), (c4_68), r5_68, (n5_68), r6_68, (n6_68), r7_68, (n7_68), (c8_21), r9_68, (n9_68), r10_68, (n10_68), r11_68, (n11_68), r12_68, (n12_68), r13_68, (n13_68), (c14_68), (c15_21), (c16_21), (r_52), rfl, a_r0_68, f1_68, a_r5_68, f3_68, a_r6_68, f5_68, a_r7_68, f7_68, a_r9_68, f9_68, a_r10_68, f11_68, a_r11_68, f13_68, a_r12_68, f15_68, a_r13_68, f17_68, hz_c15_68, f19_68, f20_68, f21_68, f22_68, f23_68, f24_68, f25_68, f26_68, f27_68, f28_68, trivial⟩
                obtain ⟨ws_70, e_ws_70⟩ : ∃ z, z = ws_53.set k_21 (b_13, .inr (9, [.ref r0_68, .int c1_68, .int c2_68, .int c3_68, .int c4_68, .ref r5_68, .ref r6_68, .ref r7_68, .int c8_21, .ref r9_68, .ref r10_68, .ref r11_68, .ref r12_68, .ref r13_68, .int c14_68, .int c15_21, .int c16_21, .int r_52])) := ⟨_, rfl⟩
                have hP : va_P (gD g) cl0 ws_70 H := by rw [e_ws_70]; exact hP
                have hD : va_D A ws_70 := by rw [e_ws_70]; exact hD
                have E_71 : gE ws_53 ws_70 := gE_set e_ws_70 hk_68 (cw_o (fi := 17) (v := .int r_52) rfl (by decide))
                have hG : Good g ws_70 := Good_set (fi := 17) (v := .int r_52) e_ws_70 hk_68 E_71 rfl hV9 hG (ivX10 hi_69)
                have Fr_72 : gF [(9, 17)] [] (some b_13) ws_53 ws_70 := gF_put (fi := 17) (v := .int r_52) e_ws_70 hk_68 rfl (by decide)
                have pp_73 := Fr_72.pp
                have hkN := gset_self e_ws_70 hk_68
                have hk_68 := hkN
                have o_h0 := E_71.1 _ _ o_h0
                have o_b_13 := E_71.1 _ _ o_b_13
                have F_b_13 := F_b_13.mo E_71
                have a_r0_68 := E_71.1 _ _ a_r0_68
                have a_r5_68 := E_71.1 _ _ a_r5_68
                have a_r6_68 := E_71.1 _ _ a_r6_68
                have a_r7_68 := E_71.1 _ _ a_r7_68
                have a_r9_68 := E_71.1 _ _ a_r9_68
                have a_r10_68 := E_71.1 _ _ a_r10_68
                have a_r11_68 := E_71.1 _ _ a_r11_68
                have a_r12_68 := E_71.1 _ _ a_r12_68
                have a_r13_68 := E_71.1 _ _ a_r13_68
                refine lv_aload_n hx hb dX12_verify_63 rfl (lv_at hl 1 rfl) ?_
                refine lv_aload_n hx hb dX12_verify_64 rfl (lv_at hl 1 rfl) ?_
                refine va_get (D := gD g) (ci := 9) (v := .int r_52) (C := RX10) (T := TX10) (N := 18) hx hb hts inX10 hown hK hP k_21 hk_68 rfl 17 (by decide) (hts _ kw_470) (fun _ h9 => h9) rfl dX12_verify_65 ?_
                have J_76 : ∀ (t_74 : Int32) (dc_76_4 : Nat) (ds_76_4 : Nat) (H : Heap) (locs : List Loc) (ls : Array Slot), dc_76_4 + PC ws_70 ≤ PC ws + (3 * v3_14.toInt.toNat + 3) → ds_76_4 + PS ws_70 ≤ PS ws + (3888 * v3_14.toInt.toNat + 3888) → va_P (gD g) cl0 ws_70 H → va_D A ws_70 → va_S A s.heap H locs → lv_has ls 4 [(0, .ref h0), (2, .ref b_13), (3, .int v3_14)] → W p l e (headSpec (wt yX12_verify cX12_verify 4 (some .int)) ({ frames := 7, cells := PC ws + (72), slots := PS ws + (93312), locals := 157 })).room s m ([.ref h0, .int x1] : List Value).toArray below meth c H locs (dc_76_4) (ds_76_4) (MQ below (va_Qi (fun (r : Int32) (u9 : va_W) => True) (gQ2 g [(1, 1), (1, 2), (1, 3), (1, 5), (1, 6), (1, 7), (1, 8), (1, 9), (4, 0), (4, 1), (4, 2), (4, 3), (4, 4), (4, 5), (4, 6), (4, 7), (7, 12), (7, 13), (7, 14), (9, 15), (9, 16), (9, 17), (11, 15), (11, 16)] [(1, 1), (1, 2), (1, 3), (1, 4), (4, 0), (4, 1), (4, 2), (7, 12), (7, 13), (7, 14)] none A ws s.heap (72) (93312)) A) ([.ref h0, .int x1] : List Value).toArray s (PC ws + (72)) (PS ws + (93312)) A) (F0 m 76 ls [.int t_74, .ref b_13]) := by
                  intro t_74 dc_76_4 ds_76_4 H locs ls  hc9 hs9 hP hD hS hl
                  have hV9 : okv ws_70 9 16 (.int t_74) := okv_i
                  refine va_put (D := gD g) (ci := 9) (v := .int t_74) (ty := .int) (C := RX10) (T := TX10) (N := 18) hx hb hts inX10 tyX10 tyX10_ok nmX10 hown hK hP hD hS k_21 hk_68 rfl 16 (by decide) (hts _ kw_450) (fun _ h9 => h9) rfl (by decide +kernel) rfl rfl (Nat.le_of_ble_eq_true rfl) dX12_verify_76 (fun H locs hP hD hS => ?_)
                  have hi_77 : invX10 g ws_70 b_13 [.ref r0_68, .int c1_68, .int c2_68, .int c3_68, .int c4_68, .ref r5_68, .ref r6_68, .ref r7_68, .int c8_21, .ref r9_68, .ref r10_68, .ref r11_68, .ref r12_68, .ref r13_68, .int c14_68, .int c15_21, .int t_74, .int r_52] := ⟨r0_68, (n0_68), (c1_68), (c2_68), (c3_68), (c4_68), r5_68, (n5_68), r6_68, (n6_68), r7_68, (n7_68), (c8_21), r9_68, (n9_68), r10_68, (n10_68), r11_68, (n11_68), r12_68, (n12_68), r13_68, (n13_68), (c14_68), (c15_21), (t_74), (r_52), rfl, a_r0_68, f1_68, a_r5_68, f3_68, a_r6_68, f5_68, a_r7_68, f7_68, a_r9_68, f9_68, a_r10_68, f11_68, a_r11_68, f13_68, a_r12_68, f15_68, a_r13_68, f17_68, hz_c15_68, f19_68, f20_68, f21_68, f22_68, f23_68, f24_68, f25_68, f26_68, f27_68, f28_68, trivial⟩
                  obtain ⟨ws_78, e_ws_78⟩ : ∃ z, z = ws_70.set k_21 (b_13, .inr (9, [.ref r0_68, .int c1_68, .int c2_68, .int c3_68, .int c4_68, .ref r5_68, .ref r6_68, .ref r7_68, .int c8_21, .ref r9_68, .ref r10_68, .ref r11_68, .ref r12_68, .ref r13_68, .int c14_68, .int c15_21, .int t_74, .int r_52])) := ⟨_, rfl⟩
                  have hP : va_P (gD g) cl0 ws_78 H := by rw [e_ws_78]; exact hP
                  have hD : va_D A ws_78 := by rw [e_ws_78]; exact hD
                  have E_79 : gE ws_70 ws_78 := gE_set e_ws_78 hk_68 (cw_o (fi := 16) (v := .int t_74) rfl (by decide))
                  have hG : Good g ws_78 := Good_set (fi := 16) (v := .int t_74) e_ws_78 hk_68 E_79 rfl hV9 hG (ivX10 hi_77)
                  have Fr_80 : gF [(9, 16)] [] (some b_13) ws_70 ws_78 := gF_put (fi := 16) (v := .int t_74) e_ws_78 hk_68 rfl (by decide)
                  have pp_81 := Fr_80.pp
                  have hkN := gset_self e_ws_78 hk_68
                  have hk_68 := hkN
                  have o_h0 := E_79.1 _ _ o_h0
                  have o_b_13 := E_79.1 _ _ o_b_13
                  have F_b_13 := F_b_13.mo E_79
                  have a_r0_68 := E_79.1 _ _ a_r0_68
                  have a_r5_68 := E_79.1 _ _ a_r5_68
                  have a_r6_68 := E_79.1 _ _ a_r6_68
                  have a_r7_68 := E_79.1 _ _ a_r7_68
                  have a_r9_68 := E_79.1 _ _ a_r9_68
                  have a_r10_68 := E_79.1 _ _ a_r10_68
                  have a_r11_68 := E_79.1 _ _ a_r11_68
                  have a_r12_68 := E_79.1 _ _ a_r12_68
                  have a_r13_68 := E_79.1 _ _ a_r13_68
                  obtain ⟨z_82, ez_82⟩ : ∃ z : Int32, v3_14 + Int32.ofInt 1 = z := ⟨_, rfl⟩
                  refine lv_iinc (v := z_82) (lv' := [(3, .int z_82), (0, .ref h0), (2, .ref b_13)]) hx hb dX12_verify_79 hl (k := 2) rfl ez_82 (by decide) rfl (fun ls hl => ?_)
                  refine lv_goto (tgt := 24) hx hb dX12_verify_82 (by decide) ?_
                  exact ih_24 _ (by obtain ⟨u_z_82, q_z_82⟩ := i_iz ez_82 (by decide) (by decide); have q_iv_15 := iv_15; have q_iv_16 := iv_16; have q_c_47 := i_nle c_47; have q_f22_21 := f22_21; have q_f22_68 := f22_68; have q_f9_21 := f9_21; have q_f23_21 := f23_21; have q_f24_21 := f24_21; have q_f25_21 := f25_21; have q_f26_21 := f26_21; have q_f27_21 := f27_21; have q_f9_68 := f9_68; have q_f23_68 := f23_68; have q_f24_68 := f24_68; have q_f25_68 := f25_68; have q_f26_68 := f26_68; have q_f27_68 := f27_68; have g_c8_21 := i_rg c8_21; have g_v3_14 := i_rg v3_14; have g_z_82 := i_rg z_82; omega) (z_82) (dc_76_4) (ds_76_4) ws_78 H locs ls rfl (by obtain ⟨u_z_82, q_z_82⟩ := i_iz ez_82 (by decide) (by decide); have q_iv_15 := iv_15; have q_iv_16 := iv_16; have q_c_47 := i_nle c_47; have q_f22_21 := f22_21; have q_f22_68 := f22_68; have q_f9_21 := f9_21; have q_f23_21 := f23_21; have q_f24_21 := f24_21; have q_f25_21 := f25_21; have q_f26_21 := f26_21; have q_f27_21 := f27_21; have q_f9_68 := f9_68; have q_f23_68 := f23_68; have q_f24_68 := f24_68; have q_f25_68 := f25_68; have q_f26_68 := f26_68; have q_f27_68 := f27_68; have g_c8_21 := i_rg c8_21; have g_v3_14 := i_rg v3_14; have g_z_82 := i_rg z_82; omega) (by obtain ⟨u_z_82, q_z_82⟩ := i_iz ez_82 (by decide) (by decide); have q_iv_15 := iv_15; have q_iv_16 := iv_16; have q_c_47 := i_nle c_47; have q_f22_21 := f22_21; have q_f22_68 := f22_68; have q_f9_21 := f9_21; have q_f23_21 := f23_21; have q_f24_21 := f24_21; have q_f25_21 := f25_21; have q_f26_21 := f26_21; have q_f27_21 := f27_21; have q_f9_68 := f9_68; have q_f23_68 := f23_68; have q_f24_68 := f24_68; have q_f25_68 := f25_68; have q_f26_68 := f26_68; have q_f27_68 := f27_68; have g_c8_21 := i_rg c8_21; have g_v3_14 := i_rg v3_14; have g_z_82 := i_rg z_82; omega) ((E_18.tr (E_54.tr (E_71.tr E_79)))) ((gF.tr Fr_19 (gF.tr (gF.mo (F' := [(1, 1), (1, 2), (1, 3), (1, 5), (1, 6), (1, 7), (1, 8), (1, 9), (4, 0), (4, 1), (4, 2), (4, 3), (4, 4), (4, 5), (4, 6), (4, 7), (7, 12), (7, 13), (7, 14), (9, 16), (9, 17)]) (C' := [(1, 1), (1, 2), (1, 3), (1, 4), (4, 0), (4, 1), (4, 2), (7, 12), (7, 13), (7, 14)]) (S' := none) Fr_55 (by decide) (fun _ h => h) (Or.inr rfl)) (gF.tr (gF.mo (F' := [(1, 1), (1, 2), (1, 3), (1, 5), (1, 6), (1, 7), (1, 8), (1, 9), (4, 0), (4, 1), (4, 2), (4, 3), (4, 4), (4, 5), (4, 6), (4, 7), (7, 12), (7, 13), (7, 14), (9, 16), (9, 17)]) (C' := [(1, 1), (1, 2), (1, 3), (1, 4), (4, 0), (4, 1), (4, 2), (7, 12), (7, 13), (7, 14)]) (S' := none) Fr_72 (by decide) (fun _ h => absurd h List.not_mem_nil) (Or.inl rfl)) (gF.mo (F' := [(1, 1), (1, 2), (1, 3), (1, 5), (1, 6), (1, 7), (1, 8), (1, 9), (4, 0), (4, 1), (4, 2), (4, 3), (4, 4), (4, 5), (4, 6), (4, 7), (7, 12), (7, 13), (7, 14), (9, 16), (9, 17)]) (C' := [(1, 1), (1, 2), (1, 3), (1, 4), (4, 0), (4, 1), (4, 2), (7, 12), (7, 13), (7, 14)]) (S' := none) Fr_80 (by decide) (fun _ h => absurd h List.not_mem_nil) (Or.inl rfl)))))) hG (by have q_iv_15 := iv_15; have q_iv_16 := iv_16; have q_c_47 := i_nle c_47; obtain ⟨u_z_82, q_z_82⟩ := i_iz ez_82 (by decide) (by decide); have q_f22_21 := f22_21; have q_f22_68 := f22_68; have q_f9_21 := f9_21; have q_f23_21 := f23_21; have q_f24_21 := f24_21; have q_f25_21 := f25_21; have q_f26_21 := f26_21; have q_f27_21 := f27_21; have q_f9_68 := f9_68; have q_f23_68 := f23_68; have q_f24_68 := f24_68; have q_f25_68 := f25_68; have q_f26_68 := f26_68; have q_f27_68 := f27_68; have q_f11_21 := f11_21; have q_f13_21 := f13_21; have q_f15_21 := f15_21; have q_f17_21 := f17_21; have q_f11_68 := f11_68; have q_f13_68 := f13_68; have q_f15_68 := f15_68; have q_f17_68 := f17_68; have g_c8_21 := i_rg c8_21; have g_v3_14 := i_rg v3_14; have g_z_82 := i_rg z_82; omega) (by have q_iv_15 := iv_15; have q_iv_16 := iv_16; have q_c_47 := i_nle c_47; obtain ⟨u_z_82, q_z_82⟩ := i_iz ez_82 (by decide) (by decide); have q_f22_21 := f22_21; have q_f22_68 := f22_68; have q_f9_21 := f9_21; have q_f23_21 := f23_21; have q_f24_21 := f24_21; have q_f25_21 := f25_21; have q_f26_21 := f26_21; have q_f27_21 := f27_21; have q_f9_68 := f9_68; have q_f23_68 := f23_68; have q_f24_68 := f24_68; have q_f25_68 := f25_68; have q_f26_68 := f26_68; have q_f27_68 := f27_68; have q_f11_21 := f11_21; have q_f13_21 := f13_21; have q_f15_21 := f15_21; have q_f17_21 := f17_21; have q_f11_68 := f11_68; have q_f13_68 := f13_68; have q_f15_68 := f15_68; have q_f17_68 := f17_68; have g_c8_21 := i_rg c8_21; have g_v3_14 := i_rg v3_14; have g_z_82 := i_rg z_82; omega) hP hD hS (lv_sub hl [1, 2, 0] rfl)
                refine lv_if_ge (tgt := 75) hx hb dX12_verify_68 (by decide) (fun c_83 => ?_) (fun c_83 => ?_)
                · refine lv_iload_n hx hb dX12_verify_75 rfl (lv_at hl 2 rfl) ?_
                  exact J_76 (v3_14) (dc_24_1 + dc_56) (ds_24_1 + ds_57) H locs ls (by have q_iv_15 := iv_15; have q_iv_16 := iv_16; have q_c_47 := i_nle c_47; have q_f22_21 := f22_21; have q_f22_68 := f22_68; have q_f9_21 := f9_21; have q_f23_21 := f23_21; have q_f24_21 := f24_21; have q_f25_21 := f25_21; have q_f26_21 := f26_21; have q_f27_21 := f27_21; have q_f9_68 := f9_68; have q_f23_68 := f23_68; have q_f24_68 := f24_68; have q_f25_68 := f25_68; have q_f26_68 := f26_68; have q_f27_68 := f27_68; have q_f11_21 := f11_21; have q_f13_21 := f13_21; have q_f15_21 := f15_21; have q_f17_21 := f17_21; have q_f11_68 := f11_68; have q_f13_68 := f13_68; have q_f15_68 := f15_68; have q_f17_68 := f17_68; have g_c8_21 := i_rg c8_21; have g_v3_14 := i_rg v3_14; omega) (by have q_iv_15 := iv_15; have q_iv_16 := iv_16; have q_c_47 := i_nle c_47; have q_f22_21 := f22_21; have q_f22_68 := f22_68; have q_f9_21 := f9_21; have q_f23_21 := f23_21; have q_f24_21 := f24_21; have q_f25_21 := f25_21; have q_f26_21 := f26_21; have q_f27_21 := f27_21; have q_f9_68 := f9_68; have q_f23_68 := f23_68; have q_f24_68 := f24_68; have q_f25_68 := f25_68; have q_f26_68 := f26_68; have q_f27_68 := f27_68; have q_f11_21 := f11_21; have q_f13_21 := f13_21; have q_f15_21 := f15_21; have q_f17_21 := f17_21; have q_f11_68 := f11_68; have q_f13_68 := f13_68; have q_f15_68 := f15_68; have q_f17_68 := f17_68; have g_c8_21 := i_rg c8_21; have g_v3_14 := i_rg v3_14; omega) hP hD hS (lv_sub hl [0, 1, 2] rfl)
                · refine lv_iconst (v := (-1)) hx hb dX12_verify_71 (by decide) ?_
                  refine lv_goto (tgt := 76) hx hb dX12_verify_72 (by decide) ?_
                  exact J_76 ((-1)) (dc_24_1 + dc_56) (ds_24_1 + ds_57) H locs ls (by have q_iv_15 := iv_15; have q_iv_16 := iv_16; have q_c_47 := i_nle c_47; have q_f22_21 := f22_21; have q_f22_68 := f22_68; have q_f9_21 := f9_21; have q_f23_21 := f23_21; have q_f24_21 := f24_21; have q_f25_21 := f25_21; have q_f26_21 := f26_21; have q_f27_21 := f27_21; have q_f9_68 := f9_68; have q_f23_68 := f23_68; have q_f24_68 := f24_68; have q_f25_68 := f25_68; have q_f26_68 := f26_68; have q_f27_68 := f27_68; have q_f11_21 := f11_21; have q_f13_21 := f13_21; have q_f15_21 := f15_21; have q_f17_21 := f17_21; have q_f11_68 := f11_68; have q_f13_68 := f13_68; have q_f15_68 := f15_68; have q_f17_68 := f17_68; have g_c8_21 := i_rg c8_21; have g_v3_14 := i_rg v3_14; omega) (by have q_iv_15 := iv_15; have q_iv_16 := iv_16; have q_c_47 := i_nle c_47; have q_f22_21 := f22_21; have q_f22_68 := f22_68; have q_f9_21 := f9_21; have q_f23_21 := f23_21; have q_f24_21 := f24_21; have q_f25_21 := f25_21; have q_f26_21 := f26_21; have q_f27_21 := f27_21; have q_f9_68 := f9_68; have q_f23_68 := f23_68; have q_f24_68 := f24_68; have q_f25_68 := f25_68; have q_f26_68 := f26_68; have q_f27_68 := f27_68; have q_f11_21 := f11_21; have q_f13_21 := f13_21; have q_f15_21 := f15_21; have q_f17_21 := f17_21; have q_f11_68 := f11_68; have q_f13_68 := f13_68; have q_f15_68 := f15_68; have q_f17_68 := f17_68; have g_c8_21 := i_rg c8_21; have g_v3_14 := i_rg v3_14; omega) hP hD hS (lv_sub hl [0, 1, 2] rfl)
              · have o_b_50 := o_r_49 _ rfl
                have hFc := gfree hD hS hA
                refine W_led (fun hL0 => ?_)
                obtain ⟨k_84, fs_84, hk_84⟩ := gC_of o_r5_1
                refine va_calli (va_runV (As := [.ref b_13, .ref b_50]) (rest := [.ref b_13]) ⟨hx, hb, hml, hown, hts⟩ (m_X1_firstFault l g H ws_17 r5_1 b_13 b_50 hG o_r5_1 o_b_13 o_b_50) (cwV 2 hts (gd_V kw_469 kw_500 kw_501 kw_392 kw_499) rfl rfl rfl (by decide +kernel) ⟨Nat.le_of_ble_eq_true rfl, Nat.le_of_ble_eq_true rfl⟩) ⟨gblindH, va_recv hK hP (ci := 1) (q0 := k_84) rfl hk_84, fun U hU hW9 => gmkH hU hW9 hP hK hD hex hE hS hFc⟩ rfl rfl hl.1 rfl (lv_room (Nat.le_of_ble_eq_true rfl)) dX12_verify_57 ⟨(show dc_24_1 + (PC ws_17 + (3)) ≤ PC ws + (72) from (by have e3 : (3 : Int32).toInt = 3 := (by decide); have e3888 : (3888 : Int32).toInt = 3888 := (by decide); have q_iv_15 := iv_15; have q_iv_16 := iv_16; have q_c_47 := i_nle c_47; have q_f22_21 := f22_21; have q_f9_21 := f9_21; have q_f23_21 := f23_21; have q_f24_21 := f24_21; have q_f25_21 := f25_21; have q_f26_21 := f26_21; have q_f27_21 := f27_21; have q_f11_21 := f11_21; have q_f13_21 := f13_21; have q_f15_21 := f15_21; have q_f17_21 := f17_21; have g_c8_21 := i_rg c8_21; have g_v3_14 := i_rg v3_14; omega)), (show ds_24_1 + (PS ws_17 + (3888)) ≤ PS ws + (93312) from (by have e3 : (3 : Int32).toInt = 3 := (by decide); have e3888 : (3888 : Int32).toInt = 3888 := (by decide); have q_iv_15 := iv_15; have q_iv_16 := iv_16; have q_c_47 := i_nle c_47; have q_f22_21 := f22_21; have q_f9_21 := f9_21; have q_f23_21 := f23_21; have q_f24_21 := f24_21; have q_f25_21 := f25_21; have q_f26_21 := f26_21; have q_f27_21 := f27_21; have q_f11_21 := f11_21; have q_f13_21 := f13_21; have q_f15_21 := f15_21; have q_f17_21 := f17_21; have g_c8_21 := i_rg c8_21; have g_v3_14 := i_rg v3_14; omega))⟩) hS (fun q _ h => hFc q h) hFc (fun r_85 ws_86 t9 H1 locs ht9 hvm9 hw9 hB9 hz9 hk9 hS => ?_)
                obtain ⟨E_87, Fr_88, hG, hP1, hD1, dc_89, ds_90, hLd, hdc_89, hds_90⟩ := hB9
                rw [ht9] at hLd
                refine W_tight (hL0.tr hLd).1 (hL0.tr hLd).2.1 ?_
                clear hL0 hLd
                have hP : va_P (gD g) cl0 ws_86 H1 := by rw [← ht9]; exact hP1
                have hD : va_D A ws_86 := hD1.weaken (fun _ _ _ h => hFc _ h)
                clear hP1 hD1 hz9 hk9 hvm9 ht9 hw9
                generalize H1 = H at hP hS ⊢
                have aa_91 := a_r0_21
                have aa_92 := a_r5_21
                have aa_93 := a_r6_21
                have aa_94 := a_r7_21
                have aa_95 := a_r9_21
                have aa_96 := a_r10_21
                have aa_97 := a_r11_21
                have aa_98 := a_r12_21
                have aa_99 := a_r13_21
                have aa_100 := a_r3_48
                have o_h0 := E_87.1 _ _ o_h0
                have o_b_13 := E_87.1 _ _ o_b_13
                have F_b_13 := F_b_13.mo E_87
                obtain ⟨fs9, hk_101, hq_101⟩ := ((gF.a (F' := [(1, 1), (1, 2), (1, 3), (1, 5), (1, 6), (1, 7), (1, 8), (1, 9), (4, 0), (4, 1), (4, 2), (4, 3), (4, 4), (4, 5), (4, 6), (4, 7), (7, 12), (7, 13), (7, 14)]) Fr_88 (fun _ h => h))) _ _ _ hk_21
                obtain ⟨r0_101, n0_101, c1_101, c2_101, c3_101, c4_101, r5_101, n5_101, r6_101, n6_101, r7_101, n7_101, c8_101, r9_101, n9_101, r10_101, n10_101, r11_101, n11_101, r12_101, n12_101, r13_101, n13_101, c14_101, c15_101, c16_101, c17_101, rfl, a_r0_101, f1_101, a_r5_101, f3_101, a_r6_101, f5_101, a_r7_101, f7_101, a_r9_101, f9_101, a_r10_101, f11_101, a_r11_101, f13_101, a_r12_101, f15_101, a_r13_101, f17_101, hz_c15_101, f19_101, f20_101, f21_101, f22_101, f23_101, f24_101, f25_101, f26_101, f27_101, f28_101, -⟩ := (hG.1 _ _ _ _ hk_101).hX10 rfl
                obtain rfl := fe_i (hq_101 8 (by decide))
                obtain rfl := fe_i (hq_101 15 (by decide))
                have hz_c15_21 := hz_c15_101
                obtain rfl := fe_i (hq_101 16 (by decide))
                obtain rfl := fe_i (hq_101 17 (by decide))
                have hV9 : okv ws_86 9 17 (.int r_85) := okv_i
                refine va_put (D := gD g) (ci := 9) (v := .int r_85) (ty := .int) (C := RX10) (T := TX10) (N := 18) hx hb hts inX10 tyX10 tyX10_ok nmX10 hown hK hP hD hS k_21 hk_101 rfl 17 (by decide) (hts _ kw_470) (fun _ h9 => h9) rfl (by decide +kernel) rfl rfl (Nat.le_of_ble_eq_true rfl) dX12_verify_60 (fun H locs hP hD hS => ?_)
                have hi_102 : invX10 g ws_86 b_13 [.ref r0_101, .int c1_101, .int c2_101, .int c3_101, .int c4_101, .ref r5_101, .ref r6_101, .ref r7_101, .int c8_21, .ref r9_101, .ref r10_101, .ref r11_101, .ref r12_101, .ref r13_101, .int c14_101, .int c15_21, .int c16_21, .int r_85] := ⟨r0_101, (n0_101), (c1_101), (c2_101), (c3_101), (c4_101), r5_101, (n5_101), r6_101, (n6_101), r7_101, (n7_101), (c8_21), r9_101, (n9_101), r10_101, (n10_101), r11_101, (n11_101), r12_101, (n12_101), r13_101, (n13_101), (c14_101), (c15_21), (c16_21), (r_85), rfl, a_r0_101, f1_101, a_r5_101, f3_101, a_r6_101, f5_101, a_r7_101, f7_101, a_r9_101, f9_101, a_r10_101, f11_101, a_r11_101, f13_101, a_r12_101, f15_101, a_r13_101, f17_101, hz_c15_101, f19_101, f20_101, f21_101, f22_101, f23_101, f24_101, f25_101, f26_101, f27_101, f28_101, trivial⟩
                obtain ⟨ws_103, e_ws_103⟩ : ∃ z, z = ws_86.set k_21 (b_13, .inr (9, [.ref r0_101, .int c1_101, .int c2_101, .int c3_101, .int c4_101, .ref r5_101, .ref r6_101, .ref r7_101, .int c8_21, .ref r9_101, .ref r10_101, .ref r11_101, .ref r12_101, .ref r13_101, .int c14_101, .int c15_21, .int c16_21, .int r_85])) := ⟨_, rfl⟩
                have hP : va_P (gD g) cl0 ws_103 H := by rw [e_ws_103]; exact hP
                have hD : va_D A ws_103 := by rw [e_ws_103]; exact hD
                have E_104 : gE ws_86 ws_103 := gE_set e_ws_103 hk_101 (cw_o (fi := 17) (v := .int r_85) rfl (by decide))
                have hG : Good g ws_103 := Good_set (fi := 17) (v := .int r_85) e_ws_103 hk_101 E_104 rfl hV9 hG (ivX10 hi_102)
                have Fr_105 : gF [(9, 17)] [] (some b_13) ws_86 ws_103 := gF_put (fi := 17) (v := .int r_85) e_ws_103 hk_101 rfl (by decide)
                have pp_106 := Fr_105.pp
                have hkN := gset_self e_ws_103 hk_101
                have hk_101 := hkN
                have o_h0 := E_104.1 _ _ o_h0
                have o_b_13 := E_104.1 _ _ o_b_13
                have F_b_13 := F_b_13.mo E_104
                have a_r0_101 := E_104.1 _ _ a_r0_101
                have a_r5_101 := E_104.1 _ _ a_r5_101
                have a_r6_101 := E_104.1 _ _ a_r6_101
                have a_r7_101 := E_104.1 _ _ a_r7_101
                have a_r9_101 := E_104.1 _ _ a_r9_101
                have a_r10_101 := E_104.1 _ _ a_r10_101
                have a_r11_101 := E_104.1 _ _ a_r11_101
                have a_r12_101 := E_104.1 _ _ a_r12_101
                have a_r13_101 := E_104.1 _ _ a_r13_101
                refine lv_aload_n hx hb dX12_verify_63 rfl (lv_at hl 1 rfl) ?_
                refine lv_aload_n hx hb dX12_verify_64 rfl (lv_at hl 1 rfl) ?_
                refine va_get (D := gD g) (ci := 9) (v := .int r_85) (C := RX10) (T := TX10) (N := 18) hx hb hts inX10 hown hK hP k_21 hk_101 rfl 17 (by decide) (hts _ kw_470) (fun _ h9 => h9) rfl dX12_verify_65 ?_
                have J_76 : ∀ (t_107 : Int32) (dc_76_5 : Nat) (ds_76_5 : Nat) (H : Heap) (locs : List Loc) (ls : Array Slot), dc_76_5 + PC ws_103 ≤ PC ws + (3 * v3_14.toInt.toNat + 3) → ds_76_5 + PS ws_103 ≤ PS ws + (3888 * v3_14.toInt.toNat + 3888) → va_P (gD g) cl0 ws_103 H → va_D A ws_103 → va_S A s.heap H locs → lv_has ls 4 [(0, .ref h0), (2, .ref b_13), (3, .int v3_14)] → W p l e (headSpec (wt yX12_verify cX12_verify 4 (some .int)) ({ frames := 7, cells := PC ws + (72), slots := PS ws + (93312), locals := 157 })).room s m ([.ref h0, .int x1] : List Value).toArray below meth c H locs (dc_76_5) (ds_76_5) (MQ below (va_Qi (fun (r : Int32) (u9 : va_W) => True) (gQ2 g [(1, 1), (1, 2), (1, 3), (1, 5), (1, 6), (1, 7), (1, 8), (1, 9), (4, 0), (4, 1), (4, 2), (4, 3), (4, 4), (4, 5), (4, 6), (4, 7), (7, 12), (7, 13), (7, 14), (9, 15), (9, 16), (9, 17), (11, 15), (11, 16)] [(1, 1), (1, 2), (1, 3), (1, 4), (4, 0), (4, 1), (4, 2), (7, 12), (7, 13), (7, 14)] none A ws s.heap (72) (93312)) A) ([.ref h0, .int x1] : List Value).toArray s (PC ws + (72)) (PS ws + (93312)) A) (F0 m 76 ls [.int t_107, .ref b_13]) := by
                  intro t_107 dc_76_5 ds_76_5 H locs ls  hc9 hs9 hP hD hS hl
                  have hV9 : okv ws_103 9 16 (.int t_107) := okv_i
                  refine va_put (D := gD g) (ci := 9) (v := .int t_107) (ty := .int) (C := RX10) (T := TX10) (N := 18) hx hb hts inX10 tyX10 tyX10_ok nmX10 hown hK hP hD hS k_21 hk_101 rfl 16 (by decide) (hts _ kw_450) (fun _ h9 => h9) rfl (by decide +kernel) rfl rfl (Nat.le_of_ble_eq_true rfl) dX12_verify_76 (fun H locs hP hD hS => ?_)
                  have hi_110 : invX10 g ws_103 b_13 [.ref r0_101, .int c1_101, .int c2_101, .int c3_101, .int c4_101, .ref r5_101, .ref r6_101, .ref r7_101, .int c8_21, .ref r9_101, .ref r10_101, .ref r11_101, .ref r12_101, .ref r13_101, .int c14_101, .int c15_21, .int t_107, .int r_85] := ⟨r0_101, (n0_101), (c1_101), (c2_101), (c3_101), (c4_101), r5_101, (n5_101), r6_101, (n6_101), r7_101, (n7_101), (c8_21), r9_101, (n9_101), r10_101, (n10_101), r11_101, (n11_101), r12_101, (n12_101), r13_101, (n13_101), (c14_101), (c15_21), (t_107), (r_85), rfl, a_r0_101, f1_101, a_r5_101, f3_101, a_r6_101, f5_101, a_r7_101, f7_101, a_r9_101, f9_101, a_r10_101, f11_101, a_r11_101, f13_101, a_r12_101, f15_101, a_r13_101, f17_101, hz_c15_101, f19_101, f20_101, f21_101, f22_101, f23_101, f24_101, f25_101, f26_101, f27_101, f28_101, trivial⟩
                  obtain ⟨ws_111, e_ws_111⟩ : ∃ z, z = ws_103.set k_21 (b_13, .inr (9, [.ref r0_101, .int c1_101, .int c2_101, .int c3_101, .int c4_101, .ref r5_101, .ref r6_101, .ref r7_101, .int c8_21, .ref r9_101, .ref r10_101, .ref r11_101, .ref r12_101, .ref r13_101, .int c14_101, .int c15_21, .int t_107, .int r_85])) := ⟨_, rfl⟩
                  have hP : va_P (gD g) cl0 ws_111 H := by rw [e_ws_111]; exact hP
                  have hD : va_D A ws_111 := by rw [e_ws_111]; exact hD
                  have E_112 : gE ws_103 ws_111 := gE_set e_ws_111 hk_101 (cw_o (fi := 16) (v := .int t_107) rfl (by decide))
                  have hG : Good g ws_111 := Good_set (fi := 16) (v := .int t_107) e_ws_111 hk_101 E_112 rfl hV9 hG (ivX10 hi_110)
                  have Fr_113 : gF [(9, 16)] [] (some b_13) ws_103 ws_111 := gF_put (fi := 16) (v := .int t_107) e_ws_111 hk_101 rfl (by decide)
                  have pp_114 := Fr_113.pp
                  have hkN := gset_self e_ws_111 hk_101
                  have hk_101 := hkN
                  have o_h0 := E_112.1 _ _ o_h0
                  have o_b_13 := E_112.1 _ _ o_b_13
                  have F_b_13 := F_b_13.mo E_112
                  have a_r0_101 := E_112.1 _ _ a_r0_101
                  have a_r5_101 := E_112.1 _ _ a_r5_101
                  have a_r6_101 := E_112.1 _ _ a_r6_101
                  have a_r7_101 := E_112.1 _ _ a_r7_101
                  have a_r9_101 := E_112.1 _ _ a_r9_101
                  have a_r10_101 := E_112.1 _ _ a_r10_101
                  have a_r11_101 := E_112.1 _ _ a_r11_101
                  have a_r12_101 := E_112.1 _ _ a_r12_101
                  have a_r13_101 := E_112.1 _ _ a_r13_101
                  obtain ⟨z_115, ez_115⟩ : ∃ z : Int32, v3_14 + Int32.ofInt 1 = z := ⟨_, rfl⟩
                  refine lv_iinc (v := z_115) (lv' := [(3, .int z_115), (0, .ref h0), (2, .ref b_13)]) hx hb dX12_verify_79 hl (k := 2) rfl ez_115 (by decide) rfl (fun ls hl => ?_)
                  refine lv_goto (tgt := 24) hx hb dX12_verify_82 (by decide) ?_
                  exact ih_24 _ (by obtain ⟨u_z_115, q_z_115⟩ := i_iz ez_115 (by decide) (by decide); have q_iv_15 := iv_15; have q_iv_16 := iv_16; have q_c_47 := i_nle c_47; have q_f22_21 := f22_21; have q_f22_101 := f22_101; have q_f9_21 := f9_21; have q_f23_21 := f23_21; have q_f24_21 := f24_21; have q_f25_21 := f25_21; have q_f26_21 := f26_21; have q_f27_21 := f27_21; have q_f9_101 := f9_101; have q_f23_101 := f23_101; have q_f24_101 := f24_101; have q_f25_101 := f25_101; have q_f26_101 := f26_101; have q_f27_101 := f27_101; have g_c8_21 := i_rg c8_21; have g_v3_14 := i_rg v3_14; have g_z_115 := i_rg z_115; omega) (z_115) (dc_76_5) (ds_76_5) ws_111 H locs ls rfl (by obtain ⟨u_z_115, q_z_115⟩ := i_iz ez_115 (by decide) (by decide); have q_iv_15 := iv_15; have q_iv_16 := iv_16; have q_c_47 := i_nle c_47; have q_f22_21 := f22_21; have q_f22_101 := f22_101; have q_f9_21 := f9_21; have q_f23_21 := f23_21; have q_f24_21 := f24_21; have q_f25_21 := f25_21; have q_f26_21 := f26_21; have q_f27_21 := f27_21; have q_f9_101 := f9_101; have q_f23_101 := f23_101; have q_f24_101 := f24_101; have q_f25_101 := f25_101; have q_f26_101 := f26_101; have q_f27_101 := f27_101; have g_c8_21 := i_rg c8_21; have g_v3_14 := i_rg v3_14; have g_z_115 := i_rg z_115; omega) (by obtain ⟨u_z_115, q_z_115⟩ := i_iz ez_115 (by decide) (by decide); have q_iv_15 := iv_15; have q_iv_16 := iv_16; have q_c_47 := i_nle c_47; have q_f22_21 := f22_21; have q_f22_101 := f22_101; have q_f9_21 := f9_21; have q_f23_21 := f23_21; have q_f24_21 := f24_21; have q_f25_21 := f25_21; have q_f26_21 := f26_21; have q_f27_21 := f27_21; have q_f9_101 := f9_101; have q_f23_101 := f23_101; have q_f24_101 := f24_101; have q_f25_101 := f25_101; have q_f26_101 := f26_101; have q_f27_101 := f27_101; have g_c8_21 := i_rg c8_21; have g_v3_14 := i_rg v3_14; have g_z_115 := i_rg z_115; omega) ((E_18.tr (E_87.tr (E_104.tr E_112)))) ((gF.tr Fr_19 (gF.tr (gF.mo (F' := [(1, 1), (1, 2), (1, 3), (1, 5), (1, 6), (1, 7), (1, 8), (1, 9), (4, 0), (4, 1), (4, 2), (4, 3), (4, 4), (4, 5), (4, 6), (4, 7), (7, 12), (7, 13), (7, 14), (9, 16), (9, 17)]) (C' := [(1, 1), (1, 2), (1, 3), (1, 4), (4, 0), (4, 1), (4, 2), (7, 12), (7, 13), (7, 14)]) (S' := none) Fr_88 (by decide) (fun _ h => h) (Or.inr rfl)) (gF.tr (gF.mo (F' := [(1, 1), (1, 2), (1, 3), (1, 5), (1, 6), (1, 7), (1, 8), (1, 9), (4, 0), (4, 1), (4, 2), (4, 3), (4, 4), (4, 5), (4, 6), (4, 7), (7, 12), (7, 13), (7, 14), (9, 16), (9, 17)]) (C' := [(1, 1), (1, 2), (1, 3), (1, 4), (4, 0), (4, 1), (4, 2), (7, 12), (7, 13), (7, 14)]) (S' := none) Fr_105 (by decide) (fun _ h => absurd h List.not_mem_nil) (Or.inl rfl)) (gF.mo (F' := [(1, 1), (1, 2), (1, 3), (1, 5), (1, 6), (1, 7), (1, 8), (1, 9), (4, 0), (4, 1), (4, 2), (4, 3), (4, 4), (4, 5), (4, 6), (4, 7), (7, 12), (7, 13), (7, 14), (9, 16), (9, 17)]) (C' := [(1, 1), (1, 2), (1, 3), (1, 4), (4, 0), (4, 1), (4, 2), (7, 12), (7, 13), (7, 14)]) (S' := none) Fr_113 (by decide) (fun _ h => absurd h List.not_mem_nil) (Or.inl rfl)))))) hG (by have q_iv_15 := iv_15; have q_iv_16 := iv_16; have q_c_47 := i_nle c_47; obtain ⟨u_z_115, q_z_115⟩ := i_iz ez_115 (by decide) (by decide); have q_f22_21 := f22_21; have q_f22_101 := f22_101; have q_f9_21 := f9_21; have q_f23_21 := f23_21; have q_f24_21 := f24_21; have q_f25_21 := f25_21; have q_f26_21 := f26_21; have q_f27_21 := f27_21; have q_f9_101 := f9_101; have q_f23_101 := f23_101; have q_f24_101 := f24_101; have q_f25_101 := f25_101; have q_f26_101 := f26_101; have q_f27_101 := f27_101; have q_f11_21 := f11_21; have q_f13_21 := f13_21; have q_f15_21 := f15_21; have q_f17_21 := f17_21; have q_f11_101 := f11_101; have q_f13_101 := f13_101; have q_f15_101 := f15_101; have q_f17_101 := f17_101; have g_c8_21 := i_rg c8_21; have g_v3_14 := i_rg v3_14; have g_z_115 := i_rg z_115; omega) (by have q_iv_15 := iv_15; have q_iv_16 := iv_16; have q_c_47 := i_nle c_47; obtain ⟨u_z_115, q_z_115⟩ := i_iz ez_115 (by decide) (by decide); have q_f22_21 := f22_21; have q_f22_101 := f22_101; have q_f9_21 := f9_21; have q_f23_21 := f23_21; have q_f24_21 := f24_21; have q_f25_21 := f25_21; have q_f26_21 := f26_21; have q_f27_21 := f27_21; have q_f9_101 := f9_101; have q_f23_101 := f23_101; have q_f24_101 := f24_101; have q_f25_101 := f25_101; have q_f26_101 := f26_101; have q_f27_101 := f27_101; have q_f11_21 := f11_21; have q_f13_21 := f13_21; have q_f15_21 := f15_21; have q_f17_21 := f17_21; have q_f11_101 := f11_101; have q_f13_101 := f13_101; have q_f15_101 := f15_101; have q_f17_101 := f17_101; have g_c8_21 := i_rg c8_21; have g_v3_14 := i_rg v3_14; have g_z_115 := i_rg z_115; omega) hP hD hS (lv_sub hl [1, 2, 0] rfl)
                refine lv_if_ge (tgt := 75) hx hb dX12_verify_68 (by decide) (fun c_116 => ?_) (fun c_116 => ?_)
                · refine lv_iload_n hx hb dX12_verify_75 rfl (lv_at hl 2 rfl) ?_
                  exact J_76 (v3_14) (dc_24_1 + dc_89) (ds_24_1 + ds_90) H locs ls (by have q_iv_15 := iv_15; have q_iv_16 := iv_16; have q_c_47 := i_nle c_47; have q_f22_21 := f22_21; have q_f22_101 := f22_101; have q_f9_21 := f9_21; have q_f23_21 := f23_21; have q_f24_21 := f24_21; have q_f25_21 := f25_21; have q_f26_21 := f26_21; have q_f27_21 := f27_21; have q_f9_101 := f9_101; have q_f23_101 := f23_101; have q_f24_101 := f24_101; have q_f25_101 := f25_101; have q_f26_101 := f26_101; have q_f27_101 := f27_101; have q_f11_21 := f11_21; have q_f13_21 := f13_21; have q_f15_21 := f15_21; have q_f17_21 := f17_21; have q_f11_101 := f11_101; have q_f13_101 := f13_101; have q_f15_101 := f15_101; have q_f17_101 := f17_101; have g_c8_21 := i_rg c8_21; have g_v3_14 := i_rg v3_14; omega) (by have q_iv_15 := iv_15; have q_iv_16 := iv_16; have q_c_47 := i_nle c_47; have q_f22_21 := f22_21; have q_f22_101 := f22_101; have q_f9_21 := f9_21; have q_f23_21 := f23_21; have q_f24_21 := f24_21; have q_f25_21 := f25_21; have q_f26_21 := f26_21; have q_f27_21 := f27_21; have q_f9_101 := f9_101; have q_f23_101 := f23_101; have q_f24_101 := f24_101; have q_f25_101 := f25_101; have q_f26_101 := f26_101; have q_f27_101 := f27_101; have q_f11_21 := f11_21; have q_f13_21 := f13_21; have q_f15_21 := f15_21; have q_f17_21 := f17_21; have q_f11_101 := f11_101; have q_f13_101 := f13_101; have q_f15_101 := f15_101; have q_f17_101 := f17_101; have g_c8_21 := i_rg c8_21; have g_v3_14 := i_rg v3_14; omega) hP hD hS (lv_sub hl [0, 1, 2] rfl)
                · refine lv_iconst (v := (-1)) hx hb dX12_verify_71 (by decide) ?_
                  refine lv_goto (tgt := 76) hx hb dX12_verify_72 (by decide) ?_
                  exact J_76 ((-1)) (dc_24_1 + dc_89) (ds_24_1 + ds_90) H locs ls (by have q_iv_15 := iv_15; have q_iv_16 := iv_16; have q_c_47 := i_nle c_47; have q_f22_21 := f22_21; have q_f22_101 := f22_101; have q_f9_21 := f9_21; have q_f23_21 := f23_21; have q_f24_21 := f24_21; have q_f25_21 := f25_21; have q_f26_21 := f26_21; have q_f27_21 := f27_21; have q_f9_101 := f9_101; have q_f23_101 := f23_101; have q_f24_101 := f24_101; have q_f25_101 := f25_101; have q_f26_101 := f26_101; have q_f27_101 := f27_101; have q_f11_21 := f11_21; have q_f13_21 := f13_21; have q_f15_21 := f15_21; have q_f17_21 := f17_21; have q_f11_101 := f11_101; have q_f13_101 := f13_101; have q_f15_101 := f15_101; have q_f17_101 := f17_101; have g_c8_21 := i_rg c8_21; have g_v3_14 := i_rg v3_14; omega) (by have q_iv_15 := iv_15; have q_iv_16 := iv_16; have q_c_47 := i_nle c_47; have q_f22_21 := f22_21; have q_f22_101 := f22_101; have q_f9_21 := f9_21; have q_f23_21 := f23_21; have q_f24_21 := f24_21; have q_f25_21 := f25_21; have q_f26_21 := f26_21; have q_f27_21 := f27_21; have q_f9_101 := f9_101; have q_f23_101 := f23_101; have q_f24_101 := f24_101; have q_f25_101 := f25_101; have q_f26_101 := f26_101; have q_f27_101 := f27_101; have q_f11_21 := f11_21; have q_f13_21 := f13_21; have q_f15_21 := f15_21; have q_f17_21 := f17_21; have q_f11_101 := f11_101; have q_f13_101 := f13_101; have q_f15_101 := f15_101; have q_f17_101 := f17_101; have g_c8_21 := i_rg c8_21; have g_v3_14 := i_rg v3_14; omega) hP hD hS (lv_sub hl [0, 1, 2] rfl)
    exact J_24 _ (0) (0) (0) ws_8 H locs ls rfl (by have e0 : (0 : Int32).toInt = 0 := (by decide); omega) (by have e0 : (0 : Int32).toInt = 0 := (by decide); omega) (gE.rf) (gF.rf) hG (by have e0 : (0 : Int32).toInt = 0 := (by decide); omega) (by have e0 : (0 : Int32).toInt = 0 := (by decide); omega) hP hD hS (lv_sub hl [2, 1, 0] rfl)
