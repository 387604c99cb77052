set_option maxHeartbeats 1000000 in
set_option maxRecDepth 100000 in
theorem m_X12_file (l : Launch) (g : Gm) (H0 : Heap) (ws : va_W) (h0 : Nat) (hG : Good g ws) (o_h0 : gC ws h0 11) (f2_t : ∀ (k k2 b : Nat) (fs gs : List Value), ows ws k h0 11 fs → fs[0]? = some (.ref b) → ows ws k2 b 0 gs → ∀ c : Int32, gs[1]? = some (.int c) → c.toInt ≤ 131072) : Met l yX12_file (wt yX12_file cX12_file 2 (some .int)) ({ frames := 9, cells := PC ws + (202), slots := PS ws + (219578), locals := 198 }) (va_Pc [.ref h0] (st_H g H0 ws)) (va_Qi (fun (r : Int32) (u9 : va_W) => True) (gQ2 g [(0, 1), (2, 1), (2, 2), (2, 3), (2, 4), (2, 5), (2, 6), (2, 8), (2, 9), (2, 10), (2, 11), (6, 0), (6, 1), (6, 2), (6, 3), (6, 5), (6, 6), (6, 7), (6, 8), (6, 12), (6, 13), (6, 14), (6, 15), (6, 16), (7, 0), (7, 1), (7, 2), (7, 3), (7, 4), (7, 5), (7, 6), (7, 7), (7, 8), (7, 9), (7, 10), (7, 11), (9, 0), (9, 1), (9, 2), (9, 3), (9, 4), (9, 5), (9, 6), (9, 7), (9, 8), (9, 9), (9, 10), (9, 11), (9, 12), (9, 13), (9, 14), (9, 16), (9, 17), (11, 11), (11, 13), (11, 14)] [(2, 7), (6, 4), (6, 9), (6, 10), (6, 11), (7, 0), (7, 1), (7, 3), (7, 5), (7, 6), (7, 7), (7, 8), (9, 5), (9, 6), (9, 7), (9, 9), (9, 10), (9, 11), (9, 12), (9, 13), (11, 3)] none (va_A ws H0.size) ws H0 (202) (219578)) (va_A ws H0.size)) (PC ws + (202)) (PS ws + (219578)) (va_A ws H0.size) := by
  refine Met.ofW (cc := cX12_file) (maxL := 2) (ret := (some .int)) (by decide) rfl ?_
  intro p e s m args below meth c s₁ B hml hv
  obtain ⟨rfl, hH0, hsz, hP, hK, hD0, hex, hE⟩ := hv
  have hx := B.exec
  have hb := B.bytes
  have hr := B.returns
  have hts0 := atoms_spec (ws := wt yX12_file cX12_file 2 (some .int)) B.pre
  have hts : ∀ w ∈ tb, w.before _ s = true := fun w h => hts0 w (List.mem_cons_of_mem _ h)
  have hown : s.vm.findClass RX12 = some m.cls := findClass_of_methodNamed B.named
  subst hH0
  have hD := hD0.self (sz := s.heap.size)
  generalize hAe : va_A ws s.heap.size = A at hD hE ⊢
  have hA : ∀ q : Nat, s.heap.size ≤ q → A q := fun q h => by rw [← hAe]; exact Or.inr h
  have hS : va_S A s.heap s.heap [] := va_S.rf
  have hl := lv_entry ([.ref h0]) (n := 2) (Nat.le_of_ble_eq_true rfl)
  rw [lg_entry_eq]
  generalize (lg_sl ([.ref h0]) ++ List.replicate (2 - (lg_sl ([.ref h0])).length) Slot.unset).toArray = ls at hl ⊢
  have hl : lv_has ls 2 [(0, .ref h0)] := hl
  obtain ⟨k_1, fs9, hk_1⟩ := gC_of o_h0
  obtain ⟨r0_1, r1_1, r2_1, r3_1, n3_1, r4_1, r5_1, r6_1, r7_1, r8_1, r9_1, c10_1, c11_1, c12_1, c13_1, c14_1, c15_1, c16_1, c17_1, rfl, o_r0_1, o_r1_1, o_r2_1, a_r3_1, f4_1, o_r4_1, o_r5_1, o_r6_1, o_r7_1, o_r8_1, o_r9_1, f11_1, f12_1, f13_1, f14_1, f15_1, f16_1, f17_1, -⟩ := (hG.1 _ _ _ _ hk_1).hX12 rfl
  obtain ⟨k_2, fs9, hk_2⟩ := gC_of o_r0_1
  obtain ⟨r0_2, n0_2, c1_2, rfl, a_r0_2, f1_2, f2_2, f3_2, f4_2, f5_2, -⟩ := (hG.1 _ _ _ _ hk_2).hX0 rfl
  have fq2_t := f2_t _ _ _ _ _ hk_1 rfl hk_2 _ rfl
  refine lv_aload_n hx hb dX12_file_0 rfl (lv_at hl 0 rfl) ?_
  refine va_get (D := gD g) (ci := 11) (v := .int c11_1) (C := RX12) (T := TX12) (N := 18) hx hb hts inX12 hown hK hP k_1 hk_1 rfl 11 (by decide) (hts _ kw_317) (fun _ h9 => h9) rfl dX12_file_1 ?_
  refine lv_bipush (v := 12) hx hb dX12_file_4 (by decide) ?_
  refine lv_icmp_lt (tgt := 12) hx hb dX12_file_6 (by decide) (fun c_3 => ?_) (fun c_3 => ?_)
  · refine lv_aload_n hx hb dX12_file_12 rfl (lv_at hl 0 rfl) ?_
    refine va_get (D := gD g) (ci := 11) (v := .ref r4_1) (C := RX12) (T := TX12) (N := 18) hx hb hts inX12 hown hK hP k_1 hk_1 rfl 4 (by decide) (hts _ kw_332) (fun _ h9 => h9) rfl dX12_file_13 ?_
    refine lv_aload_n hx hb dX12_file_16 rfl (lv_at hl 0 rfl) ?_
    refine va_get (D := gD g) (ci := 11) (v := .ref r0_1) (C := RX12) (T := TX12) (N := 18) hx hb hts inX12 hown hK hP k_1 hk_1 rfl 0 (by decide) (hts _ kw_349) (fun _ h9 => h9) rfl dX12_file_17 ?_
    have hFc := gfree hD hS hA
    have pg_4 := ge_0_0 hD hk_2 rfl a_r0_2
    refine W_led (fun hL0 => ?_)
    obtain ⟨k_5, fs_5, hk_5⟩ := gC_of o_r4_1
    refine va_callq (va_runV (As := [.ref r0_1]) (rest := []) ⟨hx, hb, hml, hown, hts⟩ (m_X2_unitOf l g s.heap ws r4_1 r0_1 hG o_r4_1 o_r0_1 (gP_of hD hk_2 (fun q90 e90 => by cases e90; exact (by have q_f2_2 := f2_2; have q_f3_2 := f3_2; have q_fq2_t := fq2_t; have q_f1_2 := f1_2; have q_f4_2 := f4_2; have q_f5_2 := f5_2; have g_c1_2 := i_rg c1_2; omega)))) (cwV 1 hts (gd_V kw_333 kw_819 kw_820 kw_389 kw_818) rfl rfl rfl (by decide +kernel) ⟨Nat.le_of_ble_eq_true rfl, Nat.le_of_ble_eq_true rfl⟩) ⟨gblindH, va_recv hK hP (ci := 2) (q0 := k_5) rfl hk_5, fun U hU hW9 => gmkH hU hW9 hP hK hD hex hE hS hFc⟩ rfl rfl hl.1 rfl (lv_room (Nat.le_of_ble_eq_true rfl)) dX12_file_20 ⟨(show 0 + (PC ws + (202)) ≤ PC ws + (202) from (by have e0 : (0 : Int32).toInt = 0 := (by decide); have e202 : (202 : Int32).toInt = 202 := (by decide); have e219578 : (219578 : Int32).toInt = 219578 := (by decide); omega)), (show 0 + (PS ws + (219578)) ≤ PS ws + (219578) from (by have e0 : (0 : Int32).toInt = 0 := (by decide); have e202 : (202 : Int32).toInt = 202 := (by decide); have e219578 : (219578 : Int32).toInt = 219578 := (by decide); omega))⟩) hS (fun q _ h => hFc q h) hFc (fun r_6 ws_7 t9 H1 locs ht9 hvm9 hw9 hB9 hz9 hk9 hS => ?_)
    obtain ⟨E_8, Fr_9, hG, hP1, hD1, dc_10, ds_11, hLd, hdc_10, hds_11⟩ := hB9
    rw [ht9] at hLd
    refine W_tight (hL0.tr hLd).1 (hL0.tr hLd).2.1 ?_
    clear hL0 hLd
    have hP : va_P (gD g) cl0 ws_7 H1 := by rw [← ht9]; exact hP1
    have hD : va_D A ws_7 := hD1.weaken (fun _ _ _ h => hFc _ h)
    have o_r_6 := hw9
    clear hP1 hD1 hz9 hk9 hvm9 ht9 hw9
    generalize H1 = H at hP hS ⊢
    have aa_12 := a_r3_1
    have aa_13 := a_r0_2
    have o_h0 := E_8.1 _ _ o_h0
    have F_r_6 := fun b h => (o_r_6 b h).2
    have o_r_6 := fun b h => (o_r_6 b h).1
    rcases r_6 with _ | b_14
    · skip
      refine lv_astore_nN (lv' := [(1, .null), (0, .ref h0)]) hx hb dX12_file_23 rfl hl (by decide) rfl (fun ls hl => ?_)
      refine lv_aload_n hx hb dX12_file_24 rfl (lv_at hl 1 rfl) ?_
      obtain ⟨fs9, hk_15, hq_15⟩ := ((gF.a (F' := [(2, 1), (2, 2), (2, 3), (2, 4), (2, 5), (2, 6), (2, 8), (2, 9), (2, 10), (2, 11), (6, 0), (6, 1), (6, 2), (6, 3), (6, 5), (6, 6), (6, 7), (6, 8), (6, 12), (6, 13), (6, 14), (6, 15), (6, 16), (7, 0), (7, 1), (7, 2), (7, 3), (7, 4), (7, 5), (7, 6), (7, 7), (7, 8), (7, 9), (7, 10), (7, 11), (9, 0), (9, 1), (9, 2), (9, 3), (9, 4), (9, 5), (9, 6), (9, 7), (9, 8), (9, 9), (9, 10), (9, 11), (9, 12), (9, 13), (9, 14), (9, 16), (9, 17)]) Fr_9 (fun _ h => h))) _ _ _ hk_1
      obtain ⟨r0_15, r1_15, r2_15, r3_15, n3_15, r4_15, r5_15, r6_15, r7_15, r8_15, r9_15, c10_15, c11_15, c12_15, c13_15, c14_15, c15_15, c16_15, c17_15, rfl, o_r0_15, o_r1_15, o_r2_15, a_r3_15, f4_15, o_r4_15, o_r5_15, o_r6_15, o_r7_15, o_r8_15, o_r9_15, f11_15, f12_15, f13_15, f14_15, f15_15, f16_15, f17_15, -⟩ := (hG.1 _ _ _ _ hk_15).hX12 rfl
      obtain rfl := fe_r (hq_15 0 (by decide))
      have o_r0_1 := o_r0_15
      obtain rfl := fe_r (hq_15 4 (by decide))
      have o_r4_1 := o_r4_15
      obtain rfl := fe_i (hq_15 11 (by decide))
      refine va_get (D := gD g) (ci := 11) (v := .ref r0_1) (C := RX12) (T := TX12) (N := 18) hx hb hts inX12 hown hK hP k_1 hk_15 rfl 0 (by decide) (hts _ kw_349) (fun _ h9 => h9) rfl dX12_file_25 ?_
      refine lv_iconst (v := 0) hx hb dX12_file_28 (by decide) ?_
      obtain ⟨fs9, hk_16, hq_16⟩ := ((gF.a (F' := [(2, 1), (2, 2), (2, 3), (2, 4), (2, 5), (2, 6), (2, 8), (2, 9), (2, 10), (2, 11), (6, 0), (6, 1), (6, 2), (6, 3), (6, 5), (6, 6), (6, 7), (6, 8), (6, 12), (6, 13), (6, 14), (6, 15), (6, 16), (7, 0), (7, 1), (7, 2), (7, 3), (7, 4), (7, 5), (7, 6), (7, 7), (7, 8), (7, 9), (7, 10), (7, 11), (9, 0), (9, 1), (9, 2), (9, 3), (9, 4), (9, 5), (9, 6), (9, 7), (9, 8), (9, 9), (9, 10), (9, 11), (9, 12), (9, 13), (9, 14), (9, 16), (9, 17)]) Fr_9 (fun _ h => h))) _ _ _ hk_2
      obtain ⟨r0_16, n0_16, c1_16, rfl, a_r0_16, f1_16, f2_16, f3_16, f4_16, f5_16, -⟩ := (hG.1 _ _ _ _ hk_16).hX0 rfl
      have hV9 : okv ws_7 0 1 (.int 0) := okv_i
      refine va_put (D := gD g) (ci := 0) (v := .int 0) (ty := .int) (C := RX0) (T := TX0) (N := 2) hx hb hts inX0 tyX0 tyX0_ok nmX0 hown hK hP hD hS k_2 hk_16 rfl 1 (by decide) (hts _ kw_311) (fun _ h9 => h9) rfl (by decide +kernel) rfl rfl (Nat.le_of_ble_eq_true rfl) dX12_file_29 (fun H locs hP hD hS => ?_)
      have f_17 : 0 ≤ (0 : Int32).toInt := (by have e0 : (0 : Int32).toInt = 0 := (by decide); omega)
      have f_18 : (0 : Int32).toInt ≤ n0_16 := (by have e0 : (0 : Int32).toInt = 0 := (by decide); have q_f1_16 := f1_16; have q_f3_16 := f3_16; have q_f4_16 := f4_16; have q_f5_16 := f5_16; have q_f_17 := f_17; have q_f2_16 := f2_16; have g_c1_16 := i_rg c1_16; omega)
      have hi_19 : invX0 g ws_7 r0_1 [.ref r0_16, .int 0] := ⟨r0_16, (n0_16), (0), rfl, a_r0_16, f1_16, f_17, f_18, f4_16, f5_16, trivial⟩
      obtain ⟨ws_20, e_ws_20⟩ : ∃ z, z = ws_7.set k_2 (r0_1, .inr (0, [.ref r0_16, .int 0])) := ⟨_, rfl⟩
      have hP : va_P (gD g) cl0 ws_20 H := by rw [e_ws_20]; exact hP
      have hD : va_D A ws_20 := by rw [e_ws_20]; exact hD
      have E_21 : gE ws_7 ws_20 := gE_set e_ws_20 hk_16 (cw_o (fi := 1) (v := .int 0) rfl (by decide))
      have hG : Good g ws_20 := Good_set (fi := 1) (v := .int 0) e_ws_20 hk_16 E_21 rfl hV9 hG (ivX0 hi_19)
      have Fr_22 : gF [(0, 1)] [] (some r0_1) ws_7 ws_20 := gF_put (fi := 1) (v := .int 0) e_ws_20 hk_16 rfl (by decide)
      have pp_23 := Fr_22.pp
      have hkN := gset_self e_ws_20 hk_16
      have hk_15 := gset_ob e_ws_20 hk_16 hk_15 (by decide)
      have hk_16 := hkN
      have o_h0 := E_21.1 _ _ o_h0
      have o_r1_15 := E_21.1 _ _ o_r1_15
      have o_r2_15 := E_21.1 _ _ o_r2_15
      have a_r3_15 := E_21.1 _ _ a_r3_15
      have o_r5_15 := E_21.1 _ _ o_r5_15
      have o_r6_15 := E_21.1 _ _ o_r6_15
      have o_r7_15 := E_21.1 _ _ o_r7_15
      have o_r8_15 := E_21.1 _ _ o_r8_15
      have o_r9_15 := E_21.1 _ _ o_r9_15
      have o_r0_1 := E_21.1 _ _ o_r0_1
      have o_r4_1 := E_21.1 _ _ o_r4_1
      have a_r0_16 := E_21.1 _ _ a_r0_16
      refine lv_aload_n hx hb dX12_file_32 rfl (lv_at hl 1 rfl) ?_
      refine lv_aload_n hx hb dX12_file_33 rfl (lv_at hl 1 rfl) ?_
      refine va_get (D := gD g) (ci := 11) (v := .ref r4_1) (C := RX12) (T := TX12) (N := 18) hx hb hts inX12 hown hK hP k_1 hk_15 rfl 4 (by decide) (hts _ kw_332) (fun _ h9 => h9) rfl dX12_file_34 ?_
      obtain ⟨k_24, fs9, hk_24⟩ := gC_of o_r4_1
      obtain ⟨r0_24, c1_24, c2_24, c3_24, c4_24, c5_24, c6_24, r7_24, n7_24, c8_24, c9_24, l10_24, c11_24, rfl, o_r0_24, a_r7_24, f2_24, f3_24, f4_24, -⟩ := (hG.1 _ _ _ _ hk_24).hX2 rfl
      refine va_get (D := gD g) (ci := 2) (v := .ref r0_24) (C := RX2) (T := TX2) (N := 12) hx hb hts inX2 hown hK hP k_24 hk_24 rfl 0 (by decide) (hts _ kw_367) (fun _ h9 => h9) rfl dX12_file_37 ?_
      obtain ⟨k_25, fs9, hk_25⟩ := gC_of o_r0_24
      obtain ⟨r0_25, n0_25, c1_25, c2_25, c3_25, r4_25, n4_25, c5_25, c6_25, c7_25, c8_25, r9_25, n9_25, r10_25, n10_25, r11_25, n11_25, c12_25, c13_25, c14_25, c15_25, c16_25, rfl, a_r0_25, f1_25, a_r4_25, f3_25, a_r9_25, f5_25, a_r10_25, f7_25, a_r11_25, f9_25, f10_25, f11_25, f12_25, f13_25, f14_25, -⟩ := (hG.1 _ _ _ _ hk_25).hX7 rfl
      refine va_get (D := gD g) (ci := 6) (v := .int c2_25) (C := RX7) (T := TX7) (N := 17) hx hb hts inX7 hown hK hP k_25 hk_25 rfl 2 (by decide) (hts _ kw_368) (fun _ h9 => h9) rfl dX12_file_40 ?_
      have hV9 : okv ws_20 11 13 (.int c2_25) := okv_i
      refine va_put (D := gD g) (ci := 11) (v := .int c2_25) (ty := .int) (C := RX12) (T := TX12) (N := 18) hx hb hts inX12 tyX12 tyX12_ok nmX12 hown hK hP hD hS k_1 hk_15 rfl 13 (by decide) (hts _ kw_369) (fun _ h9 => h9) rfl (by decide +kernel) rfl rfl (Nat.le_of_ble_eq_true rfl) dX12_file_43 (fun H locs hP hD hS => ?_)
      have hi_26 : invX12 g ws_20 h0 [.ref r0_1, .ref r1_15, .ref r2_15, .ref r3_15, .ref r4_1, .ref r5_15, .ref r6_15, .ref r7_15, .ref r8_15, .ref r9_15, .int c10_15, .int c11_1, .int c12_15, .int c2_25, .int c14_15, .int c15_15, .int c16_15, .int c17_15] := ⟨r0_1, r1_15, r2_15, r3_15, (n3_15), r4_1, r5_15, r6_15, r7_15, r8_15, r9_15, (c10_15), (c11_1), (c12_15), (c2_25), (c14_15), (c15_15), (c16_15), (c17_15), rfl, o_r0_1, o_r1_15, o_r2_15, a_r3_15, f4_15, o_r4_1, o_r5_15, o_r6_15, o_r7_15, o_r8_15, o_r9_15, f11_15, f12_15, f13_15, f14_15, f15_15, f16_15, f17_15, trivial⟩
      obtain ⟨ws_27, e_ws_27⟩ : ∃ z, z = ws_20.set k_1 (h0, .inr (11, [.ref r0_1, .ref r1_15, .ref r2_15, .ref r3_15, .ref r4_1, .ref r5_15, .ref r6_15, .ref r7_15, .ref r8_15, .ref r9_15, .int c10_15, .int c11_1, .int c12_15, .int c2_25, .int c14_15, .int c15_15, .int c16_15, .int c17_15])) := ⟨_, rfl⟩
      have hP : va_P (gD g) cl0 ws_27 H := by rw [e_ws_27]; exact hP
      have hD : va_D A ws_27 := by rw [e_ws_27]; exact hD
      have E_28 : gE ws_20 ws_27 := gE_set e_ws_27 hk_15 (cw_o (fi := 13) (v := .int c2_25) rfl (by decide))
      have hG : Good g ws_27 := Good_set (fi := 13) (v := .int c2_25) e_ws_27 hk_15 E_28 rfl hV9 hG (ivX12 hi_26)
      have Fr_29 : gF [(11, 13)] [] (some h0) ws_20 ws_27 := gF_put (fi := 13) (v := .int c2_25) e_ws_27 hk_15 rfl (by decide)
      have pp_30 := Fr_29.pp
      have hkN := gset_self e_ws_27 hk_15
      have hk_16 := gset_ob e_ws_27 hk_15 hk_16 (by decide)
      have hk_24 := gset_ob e_ws_27 hk_15 hk_24 (by decide)
      have hk_25 := gset_ob e_ws_27 hk_15 hk_25 (by decide)
      have hk_15 := hkN
      have o_h0 := E_28.1 _ _ o_h0
      have o_r1_15 := E_28.1 _ _ o_r1_15
      have o_r2_15 := E_28.1 _ _ o_r2_15
      have a_r3_15 := E_28.1 _ _ a_r3_15
      have o_r5_15 := E_28.1 _ _ o_r5_15
      have o_r6_15 := E_28.1 _ _ o_r6_15
      have o_r7_15 := E_28.1 _ _ o_r7_15
      have o_r8_15 := E_28.1 _ _ o_r8_15
      have o_r9_15 := E_28.1 _ _ o_r9_15
      have o_r0_1 := E_28.1 _ _ o_r0_1
      have o_r4_1 := E_28.1 _ _ o_r4_1
      have a_r0_16 := E_28.1 _ _ a_r0_16
      have o_r0_24 := E_28.1 _ _ o_r0_24
      have a_r7_24 := E_28.1 _ _ a_r7_24
      have a_r0_25 := E_28.1 _ _ a_r0_25
      have a_r4_25 := E_28.1 _ _ a_r4_25
      have a_r9_25 := E_28.1 _ _ a_r9_25
      have a_r10_25 := E_28.1 _ _ a_r10_25
      have a_r11_25 := E_28.1 _ _ a_r11_25
      refine lv_aload_n hx hb dX12_file_46 rfl (lv_at hl 1 rfl) ?_
      refine lv_aload_n hx hb dX12_file_47 rfl (lv_at hl 1 rfl) ?_
      refine va_get (D := gD g) (ci := 11) (v := .ref r4_1) (C := RX12) (T := TX12) (N := 18) hx hb hts inX12 hown hK hP k_1 hk_15 rfl 4 (by decide) (hts _ kw_332) (fun _ h9 => h9) rfl dX12_file_48 ?_
      refine va_get (D := gD g) (ci := 2) (v := .ref r0_24) (C := RX2) (T := TX2) (N := 12) hx hb hts inX2 hown hK hP k_24 hk_24 rfl 0 (by decide) (hts _ kw_367) (fun _ h9 => h9) rfl dX12_file_51 ?_
      refine va_get (D := gD g) (ci := 6) (v := .int c3_25) (C := RX7) (T := TX7) (N := 17) hx hb hts inX7 hown hK hP k_25 hk_25 rfl 3 (by decide) (hts _ kw_370) (fun _ h9 => h9) rfl dX12_file_54 ?_
      have hV9 : okv ws_27 11 14 (.int c3_25) := okv_i
      refine va_put (D := gD g) (ci := 11) (v := .int c3_25) (ty := .int) (C := RX12) (T := TX12) (N := 18) hx hb hts inX12 tyX12 tyX12_ok nmX12 hown hK hP hD hS k_1 hk_15 rfl 14 (by decide) (hts _ kw_371) (fun _ h9 => h9) rfl (by decide +kernel) rfl rfl (Nat.le_of_ble_eq_true rfl) dX12_file_57 (fun H locs hP hD hS => ?_)
      have hi_31 : invX12 g ws_27 h0 [.ref r0_1, .ref r1_15, .ref r2_15, .ref r3_15, .ref r4_1, .ref r5_15, .ref r6_15, .ref r7_15, .ref r8_15, .ref r9_15, .int c10_15, .int c11_1, .int c12_15, .int c2_25, .int c3_25, .int c15_15, .int c16_15, .int c17_15] := ⟨r0_1, r1_15, r2_15, r3_15, (n3_15), r4_1, r5_15, r6_15, r7_15, r8_15, r9_15, (c10_15), (c11_1), (c12_15), (c2_25), (c3_25), (c15_15), (c16_15), (c17_15), rfl, o_r0_1, o_r1_15, o_r2_15, a_r3_15, f4_15, o_r4_1, o_r5_15, o_r6_15, o_r7_15, o_r8_15, o_r9_15, f11_15, f12_15, f13_15, f14_15, f15_15, f16_15, f17_15, trivial⟩
      obtain ⟨ws_32, e_ws_32⟩ : ∃ z, z = ws_27.set k_1 (h0, .inr (11, [.ref r0_1, .ref r1_15, .ref r2_15, .ref r3_15, .ref r4_1, .ref r5_15, .ref r6_15, .ref r7_15, .ref r8_15, .ref r9_15, .int c10_15, .int c11_1, .int c12_15, .int c2_25, .int c3_25, .int c15_15, .int c16_15, .int c17_15])) := ⟨_, rfl⟩
      have hP : va_P (gD g) cl0 ws_32 H := by rw [e_ws_32]; exact hP
      have hD : va_D A ws_32 := by rw [e_ws_32]; exact hD
      have E_33 : gE ws_27 ws_32 := gE_set e_ws_32 hk_15 (cw_o (fi := 14) (v := .int c3_25) rfl (by decide))
      have hG : Good g ws_32 := Good_set (fi := 14) (v := .int c3_25) e_ws_32 hk_15 E_33 rfl hV9 hG (ivX12 hi_31)
      have Fr_34 : gF [(11, 14)] [] (some h0) ws_27 ws_32 := gF_put (fi := 14) (v := .int c3_25) e_ws_32 hk_15 rfl (by decide)
      have pp_35 := Fr_34.pp
      have hkN := gset_self e_ws_32 hk_15
      have hk_16 := gset_ob e_ws_32 hk_15 hk_16 (by decide)
      have hk_24 := gset_ob e_ws_32 hk_15 hk_24 (by decide)
      have hk_25 := gset_ob e_ws_32 hk_15 hk_25 (by decide)
      have hk_15 := hkN
      have o_h0 := E_33.1 _ _ o_h0
      have o_r1_15 := E_33.1 _ _ o_r1_15
      have o_r2_15 := E_33.1 _ _ o_r2_15
      have a_r3_15 := E_33.1 _ _ a_r3_15
      have o_r5_15 := E_33.1 _ _ o_r5_15
      have o_r6_15 := E_33.1 _ _ o_r6_15
      have o_r7_15 := E_33.1 _ _ o_r7_15
      have o_r8_15 := E_33.1 _ _ o_r8_15
      have o_r9_15 := E_33.1 _ _ o_r9_15
      have o_r0_1 := E_33.1 _ _ o_r0_1
      have o_r4_1 := E_33.1 _ _ o_r4_1
      have a_r0_16 := E_33.1 _ _ a_r0_16
      have o_r0_24 := E_33.1 _ _ o_r0_24
      have a_r7_24 := E_33.1 _ _ a_r7_24
      have a_r0_25 := E_33.1 _ _ a_r0_25
      have a_r4_25 := E_33.1 _ _ a_r4_25
      have a_r9_25 := E_33.1 _ _ a_r9_25
      have a_r10_25 := E_33.1 _ _ a_r10_25
      have a_r11_25 := E_33.1 _ _ a_r11_25
      refine lv_aload_n hx hb dX12_file_60 rfl (lv_at hl 1 rfl) ?_
      refine lv_aload_nN hx hb dX12_file_61 rfl (lv_at hl 0 rfl) ?_
      refine lv_iconst (v := (-1)) hx hb dX12_file_62 (by decide) ?_
      have hFc := gfree hD hS hA
      refine va_calli (va_runV (As := [.null, .int (-1)]) (rest := []) ⟨hx, hb, hml, hown, hts⟩ (m_X12_keep_N l g H.size ws_32 h0 ((-1)) hG o_h0) (cwV 2 hts (gd_V kw_334 kw_408 kw_409 kw_280 kw_407) rfl rfl rfl (by decide +kernel) ⟨Nat.le_of_ble_eq_true rfl, Nat.le_of_ble_eq_true rfl⟩) ⟨gblind, va_recv hK hP (ci := 11) (q0 := k_1) rfl hk_15, fun U hU hW9 => gmk hU hW9 hP hK hD hex hE hS hFc⟩ rfl rfl hl.1 rfl (lv_room (Nat.le_of_ble_eq_true rfl)) dX12_file_63 ⟨(show 0 + dc_10 + 0 ≤ PC ws + (202) from (by have e0 : (0 : Int32).toInt = 0 := (by decide); have q_f_17 := f_17; omega)), (show 0 + ds_11 + 0 ≤ PS ws + (219578) from (by have e0 : (0 : Int32).toInt = 0 := (by decide); have q_f_17 := f_17; omega))⟩) hS (fun q _ h => hFc q h) hFc (fun r_36 ws_37 t9 H1 locs ht9 hvm9 hw9 hB9 hz9 hk9 hS => ?_)
      obtain ⟨E_38, Fr_39, hG, hP1, hD1⟩ := hB9
      have hP : va_P (gD g) cl0 ws_37 H1 := by rw [← ht9]; exact hP1
      have hD : va_D A ws_37 := hD1.weaken (fun _ _ _ h => hFc _ h)
      clear hP1 hD1 hz9 hk9 hvm9 ht9 hw9
      generalize H1 = H at hP hS ⊢
      have aa_42 := a_r3_15
      have aa_43 := a_r0_16
      have aa_44 := a_r7_24
      have aa_45 := a_r0_25
      have aa_46 := a_r4_25
      have aa_47 := a_r9_25
      have aa_48 := a_r10_25
      have aa_49 := a_r11_25
      have o_h0 := E_38.1 _ _ o_h0
      have pp_50 := Fr_39.pp
      refine W_led (fun hLd => ?_)
      have hcl : 0 + dc_10 + PC ws_37 ≤ PC ws + (202) := (by have e0 : (0 : Int32).toInt = 0 := (by decide); have q_f_17 := f_17; omega)
      have hsl : 0 + ds_11 + PS ws_37 ≤ PS ws + (219578) := (by have e0 : (0 : Int32).toInt = 0 := (by decide); have q_f_17 := f_17; omega)
      refine W.widen (k := PC ws + (202)) (n := PS ws + (219578)) (by omega) (by omega) ?_
      exact W.iret (v := r_36) hx hb hr (fun t9 ht9 hW9 => ⟨⟨_, ws_37, rfl, trivial, ⟨(E_8.tr (E_21.tr (E_28.tr (E_33.tr E_38)))), (gF.tr (gF.mo (F' := [(0, 1), (2, 1), (2, 2), (2, 3), (2, 4), (2, 5), (2, 6), (2, 8), (2, 9), (2, 10), (2, 11), (6, 0), (6, 1), (6, 2), (6, 3), (6, 5), (6, 6), (6, 7), (6, 8), (6, 12), (6, 13), (6, 14), (6, 15), (6, 16), (7, 0), (7, 1), (7, 2), (7, 3), (7, 4), (7, 5), (7, 6), (7, 7), (7, 8), (7, 9), (7, 10), (7, 11), (9, 0), (9, 1), (9, 2), (9, 3), (9, 4), (9, 5), (9, 6), (9, 7), (9, 8), (9, 9), (9, 10), (9, 11), (9, 12), (9, 13), (9, 14), (9, 16), (9, 17), (11, 11), (11, 13), (11, 14)]) (C' := [(2, 7), (6, 4), (6, 9), (6, 10), (6, 11), (7, 0), (7, 1), (7, 3), (7, 5), (7, 6), (7, 7), (7, 8), (9, 5), (9, 6), (9, 7), (9, 9), (9, 10), (9, 11), (9, 12), (9, 13), (11, 3)]) (S' := none) Fr_9 (by decide) (by decide) (Or.inr rfl)) (gF.tr (gF.mo (F' := [(0, 1), (2, 1), (2, 2), (2, 3), (2, 4), (2, 5), (2, 6), (2, 8), (2, 9), (2, 10), (2, 11), (6, 0), (6, 1), (6, 2), (6, 3), (6, 5), (6, 6), (6, 7), (6, 8), (6, 12), (6, 13), (6, 14), (6, 15), (6, 16), (7, 0), (7, 1), (7, 2), (7, 3), (7, 4), (7, 5), (7, 6), (7, 7), (7, 8), (7, 9), (7, 10), (7, 11), (9, 0), (9, 1), (9, 2), (9, 3), (9, 4), (9, 5), (9, 6), (9, 7), (9, 8), (9, 9), (9, 10), (9, 11), (9, 12), (9, 13), (9, 14), (9, 16), (9, 17), (11, 11), (11, 13), (11, 14)]) (C' := [(2, 7), (6, 4), (6, 9), (6, 10), (6, 11), (7, 0), (7, 1), (7, 3), (7, 5), (7, 6), (7, 7), (7, 8), (9, 5), (9, 6), (9, 7), (9, 9), (9, 10), (9, 11), (9, 12), (9, 13), (11, 3)]) (S' := none) Fr_22 (by decide) (fun _ h => absurd h List.not_mem_nil) (Or.inl rfl)) (gF.tr (gF.mo (F' := [(0, 1), (2, 1), (2, 2), (2, 3), (2, 4), (2, 5), (2, 6), (2, 8), (2, 9), (2, 10), (2, 11), (6, 0), (6, 1), (6, 2), (6, 3), (6, 5), (6, 6), (6, 7), (6, 8), (6, 12), (6, 13), (6, 14), (6, 15), (6, 16), (7, 0), (7, 1), (7, 2), (7, 3), (7, 4), (7, 5), (7, 6), (7, 7), (7, 8), (7, 9), (7, 10), (7, 11), (9, 0), (9, 1), (9, 2), (9, 3), (9, 4), (9, 5), (9, 6), (9, 7), (9, 8), (9, 9), (9, 10), (9, 11), (9, 12), (9, 13), (9, 14), (9, 16), (9, 17), (11, 11), (11, 13), (11, 14)]) (C' := [(2, 7), (6, 4), (6, 9), (6, 10), (6, 11), (7, 0), (7, 1), (7, 3), (7, 5), (7, 6), (7, 7), (7, 8), (9, 5), (9, 6), (9, 7), (9, 9), (9, 10), (9, 11), (9, 12), (9, 13), (11, 3)]) (S' := none) Fr_29 (by decide) (fun _ h => absurd h List.not_mem_nil) (Or.inl rfl)) (gF.tr (gF.mo (F' := [(0, 1), (2, 1), (2, 2), (2, 3), (2, 4), (2, 5), (2, 6), (2, 8), (2, 9), (2, 10), (2, 11), (6, 0), (6, 1), (6, 2), (6, 3), (6, 5), (6, 6), (6, 7), (6, 8), (6, 12), (6, 13), (6, 14), (6, 15), (6, 16), (7, 0), (7, 1), (7, 2), (7, 3), (7, 4), (7, 5), (7, 6), (7, 7), (7, 8), (7, 9), (7, 10), (7, 11), (9, 0), (9, 1), (9, 2), (9, 3), (9, 4), (9, 5), (9, 6), (9, 7), (9, 8), (9, 9), (9, 10), (9, 11), (9, 12), (9, 13), (9, 14), (9, 16), (9, 17), (11, 11), (11, 13), (11, 14)]) (C' := [(2, 7), (6, 4), (6, 9), (6, 10), (6, 11), (7, 0), (7, 1), (7, 3), (7, 5), (7, 6), (7, 7), (7, 8), (9, 5), (9, 6), (9, 7), (9, 9), (9, 10), (9, 11), (9, 12), (9, 13), (11, 3)]) (S' := none) Fr_34 (by decide) (fun _ h => absurd h List.not_mem_nil) (Or.inl rfl)) (gF.mo (F' := [(0, 1), (2, 1), (2, 2), (2, 3), (2, 4), (2, 5), (2, 6), (2, 8), (2, 9), (2, 10), (2, 11), (6, 0), (6, 1), (6, 2), (6, 3), (6, 5), (6, 6), (6, 7), (6, 8), (6, 12), (6, 13), (6, 14), (6, 15), (6, 16), (7, 0), (7, 1), (7, 2), (7, 3), (7, 4), (7, 5), (7, 6), (7, 7), (7, 8), (7, 9), (7, 10), (7, 11), (9, 0), (9, 1), (9, 2), (9, 3), (9, 4), (9, 5), (9, 6), (9, 7), (9, 8), (9, 9), (9, 10), (9, 11), (9, 12), (9, 13), (9, 14), (9, 16), (9, 17), (11, 11), (11, 13), (11, 14)]) (C' := [(2, 7), (6, 4), (6, 9), (6, 10), (6, 11), (7, 0), (7, 1), (7, 3), (7, 5), (7, 6), (7, 7), (7, 8), (9, 5), (9, 6), (9, 7), (9, 9), (9, 10), (9, 11), (9, 12), (9, 13), (11, 3)]) (S' := none) Fr_39 (by decide) (by decide) (Or.inr rfl)))))), hG, by rw [ht9]; exact hP, hD, _, _, by rw [ht9]; exact hLd, hcl, hsl⟩⟩, hS.F ht9⟩) hS.2.2 dX12_file_66
    · have o_b_14 := o_r_6 _ rfl
      have F_b_14 := F_r_6 _ rfl
      refine lv_astore_n (lv' := [(1, .ref b_14), (0, .ref h0)]) hx hb dX12_file_23 rfl hl (by decide) rfl (fun ls hl => ?_)
      refine lv_aload_n hx hb dX12_file_24 rfl (lv_at hl 1 rfl) ?_
      obtain ⟨fs9, hk_51, hq_51⟩ := ((gF.a (F' := [(2, 1), (2, 2), (2, 3), (2, 4), (2, 5), (2, 6), (2, 8), (2, 9), (2, 10), (2, 11), (6, 0), (6, 1), (6, 2), (6, 3), (6, 5), (6, 6), (6, 7), (6, 8), (6, 12), (6, 13), (6, 14), (6, 15), (6, 16), (7, 0), (7, 1), (7, 2), (7, 3), (7, 4), (7, 5), (7, 6), (7, 7), (7, 8), (7, 9), (7, 10), (7, 11), (9, 0), (9, 1), (9, 2), (9, 3), (9, 4), (9, 5), (9, 6), (9, 7), (9, 8), (9, 9), (9, 10), (9, 11), (9, 12), (9, 13), (9, 14), (9, 16), (9, 17)]) Fr_9 (fun _ h => h))) _ _ _ hk_1
      obtain ⟨r0_51, r1_51, r2_51, r3_51, n3_51, r4_51, r5_51, r6_51, r7_51, r8_51, r9_51, c10_51, c11_51, c12_51, c13_51, c14_51, c15_51, c16_51, c17_51, rfl, o_r0_51, o_r1_51, o_r2_51, a_r3_51, f4_51, o_r4_51, o_r5_51, o_r6_51, o_r7_51, o_r8_51, o_r9_51, f11_51, f12_51, f13_51, f14_51, f15_51, f16_51, f17_51, -⟩ := (hG.1 _ _ _ _ hk_51).hX12 rfl
      obtain rfl := fe_r (hq_51 0 (by decide))
      have o_r0_1 := o_r0_51
      obtain rfl := fe_r (hq_51 4 (by decide))
      have o_r4_1 := o_r4_51
      obtain rfl := fe_i (hq_51 11 (by decide))
      refine va_get (D := gD g) (ci := 11) (v := .ref r0_1) (C := RX12) (T := TX12) (N := 18) hx hb hts inX12 hown hK hP k_1 hk_51 rfl 0 (by decide) (hts _ kw_349) (fun _ h9 => h9) rfl dX12_file_25 ?_
      refine lv_iconst (v := 0) hx hb dX12_file_28 (by decide) ?_
      obtain ⟨fs9, hk_52, hq_52⟩ := ((gF.a (F' := [(2, 1), (2, 2), (2, 3), (2, 4), (2, 5), (2, 6), (2, 8), (2, 9), (2, 10), (2, 11), (6, 0), (6, 1), (6, 2), (6, 3), (6, 5), (6, 6), (6, 7), (6, 8), (6, 12), (6, 13), (6, 14), (6, 15), (6, 16), (7, 0), (7, 1), (7, 2), (7, 3), (7, 4), (7, 5), (7, 6), (7, 7), (7, 8), (7, 9), (7, 10), (7, 11), (9, 0), (9, 1), (9, 2), (9, 3), (9, 4), (9, 5), (9, 6), (9, 7), (9, 8), (9, 9), (9, 10), (9, 11), (9, 12), (9, 13), (9, 14), (9, 16), (9, 17)]) Fr_9 (fun _ h => h))) _ _ _ hk_2
      obtain ⟨r0_52, n0_52, c1_52, rfl, a_r0_52, f1_52, f2_52, f3_52, f4_52, f5_52, -⟩ := (hG.1 _ _ _ _ hk_52).hX0 rfl
      have hV9 : okv ws_7 0 1 (.int 0) := okv_i
      refine va_put (D := gD g) (ci := 0) (v := .int 0) (ty := .int) (C := RX0) (T := TX0) (N := 2) hx hb hts inX0 tyX0 tyX0_ok nmX0 hown hK hP hD hS k_2 hk_52 rfl 1 (by decide) (hts _ kw_311) (fun _ h9 => h9) rfl (by decide +kernel) rfl rfl (Nat.le_of_ble_eq_true rfl) dX12_file_29 (fun H locs hP hD hS => ?_)
      have f_53 : 0 ≤ (0 : Int32).toInt := (by have e0 : (0 : Int32).toInt = 0 := (by decide); omega)
      have f_54 : (0 : Int32).toInt ≤ n0_52 := (by have e0 : (0 : Int32).toInt = 0 := (by decide); have q_f1_52 := f1_52; have q_f3_52 := f3_52; have q_f4_52 := f4_52; have q_f5_52 := f5_52; have q_f_53 := f_53; have q_f2_52 := f2_52; have g_c1_52 := i_rg c1_52; omega)
      have hi_55 : invX0 g ws_7 r0_1 [.ref r0_52, .int 0] := ⟨r0_52, (n0_52), (0), rfl, a_r0_52, f1_52, f_53, f_54, f4_52, f5_52, trivial⟩
      obtain ⟨ws_56, e_ws_56⟩ : ∃ z, z = ws_7.set k_2 (r0_1, .inr (0, [.ref r0_52, .int 0])) := ⟨_, rfl⟩
      have hP : va_P (gD g) cl0 ws_56 H := by rw [e_ws_56]; exact hP
      have hD : va_D A ws_56 := by rw [e_ws_56]; exact hD
      have E_57 : gE ws_7 ws_56 := gE_set e_ws_56 hk_52 (cw_o (fi := 1) (v := .int 0) rfl (by decide))
      have hG : Good g ws_56 := Good_set (fi := 1) (v := .int 0) e_ws_56 hk_52 E_57 rfl hV9 hG (ivX0 hi_55)
      have Fr_58 : gF [(0, 1)] [] (some r0_1) ws_7 ws_56 := gF_put (fi := 1) (v := .int 0) e_ws_56 hk_52 rfl (by decide)
      have pp_59 := Fr_58.pp
      have hkN := gset_self e_ws_56 hk_52
      have hk_51 := gset_ob e_ws_56 hk_52 hk_51 (by decide)
      have hk_52 := hkN
      have o_h0 := E_57.1 _ _ o_h0
      have o_b_14 := E_57.1 _ _ o_b_14
      have F_b_14 := F_b_14.mo E_57
      have o_r1_51 := E_57.1 _ _ o_r1_51
      have o_r2_51 := E_57.1 _ _ o_r2_51
      have a_r3_51 := E_57.1 _ _ a_r3_51
      have o_r5_51 := E_57.1 _ _ o_r5_51
      have o_r6_51 := E_57.1 _ _ o_r6_51
      have o_r7_51 := E_57.1 _ _ o_r7_51
      have o_r8_51 := E_57.1 _ _ o_r8_51
      have o_r9_51 := E_57.1 _ _ o_r9_51
      have o_r0_1 := E_57.1 _ _ o_r0_1
      have o_r4_1 := E_57.1 _ _ o_r4_1
      have a_r0_52 := E_57.1 _ _ a_r0_52
      refine lv_aload_n hx hb dX12_file_32 rfl (lv_at hl 1 rfl) ?_
      refine lv_aload_n hx hb dX12_file_33 rfl (lv_at hl 1 rfl) ?_
      refine va_get (D := gD g) (ci := 11) (v := .ref r4_1) (C := RX12) (T := TX12) (N := 18) hx hb hts inX12 hown hK hP k_1 hk_51 rfl 4 (by decide) (hts _ kw_332) (fun _ h9 => h9) rfl dX12_file_34 ?_
      obtain ⟨k_60, fs9, hk_60⟩ := gC_of o_r4_1
      obtain ⟨r0_60, c1_60, c2_60, c3_60, c4_60, c5_60, c6_60, r7_60, n7_60, c8_60, c9_60, l10_60, c11_60, rfl, o_r0_60, a_r7_60, f2_60, f3_60, f4_60, -⟩ := (hG.1 _ _ _ _ hk_60).hX2 rfl
      refine va_get (D := gD g) (ci := 2) (v := .ref r0_60) (C := RX2) (T := TX2) (N := 12) hx hb hts inX2 hown hK hP k_60 hk_60 rfl 0 (by decide) (hts _ kw_367) (fun _ h9 => h9) rfl dX12_file_37 ?_
      obtain ⟨k_61, fs9, hk_61⟩ := gC_of o_r0_60
      obtain ⟨r0_61, n0_61, c1_61, c2_61, c3_61, r4_61, n4_61, c5_61, c6_61, c7_61, c8_61, r9_61, n9_61, r10_61, n10_61, r11_61, n11_61, c12_61, c13_61, c14_61, c15_61, c16_61, rfl, a_r0_61, f1_61, a_r4_61, f3_61, a_r9_61, f5_61, a_r10_61, f7_61, a_r11_61, f9_61, f10_61, f11_61, f12_61, f13_61, f14_61, -⟩ := (hG.1 _ _ _ _ hk_61).hX7 rfl
      refine va_get (D := gD g) (ci := 6) (v := .int c2_61) (C := RX7) (T := TX7) (N := 17) hx hb hts inX7 hown hK hP k_61 hk_61 rfl 2 (by decide) (hts _ kw_368) (fun _ h9 => h9) rfl dX12_file_40 ?_
      have hV9 : okv ws_56 11 13 (.int c2_61) := okv_i
      refine va_put (D := gD g) (ci := 11) (v := .int c2_61) (ty := .int) (C := RX12) (T := TX12) (N := 18) hx hb hts inX12 tyX12 tyX12_ok nmX12 hown hK hP hD hS k_1 hk_51 rfl 13 (by decide) (hts _ kw_369) (fun _ h9 => h9) rfl (by decide +kernel) rfl rfl (Nat.le_of_ble_eq_true rfl) dX12_file_43 (fun H locs hP hD hS => ?_)
      have hi_62 : invX12 g ws_56 h0 [.ref r0_1, .ref r1_51, .ref r2_51, .ref r3_51, .ref r4_1, .ref r5_51, .ref r6_51, .ref r7_51, .ref r8_51, .ref r9_51, .int c10_51, .int c11_1, .int c12_51, .int c2_61, .int c14_51, .int c15_51, .int c16_51, .int c17_51] := ⟨r0_1, r1_51, r2_51, r3_51, (n3_51), r4_1, r5_51, r6_51, r7_51, r8_51, r9_51, (c10_51), (c11_1), (c12_51), (c2_61), (c14_51), (c15_51), (c16_51), (c17_51), rfl, o_r0_1, o_r1_51, o_r2_51, a_r3_51, f4_51, o_r4_1, o_r5_51, o_r6_51, o_r7_51, o_r8_51, o_r9_51, f11_51, f12_51, f13_51, f14_51, f15_51, f16_51, f17_51, trivial⟩
      obtain ⟨ws_63, e_ws_63⟩ : ∃ z, z = ws_56.set k_1 (h0, .inr (11, [.ref r0_1, .ref r1_51, .ref r2_51, .ref r3_51, .ref r4_1, .ref r5_51, .ref r6_51, .ref r7_51, .ref r8_51, .ref r9_51, .int c10_51, .int c11_1, .int c12_51, .int c2_61, .int c14_51, .int c15_51, .int c16_51, .int c17_51])) := ⟨_, rfl⟩
      have hP : va_P (gD g) cl0 ws_63 H := by rw [e_ws_63]; exact hP
      have hD : va_D A ws_63 := by rw [e_ws_63]; exact hD
      have E_64 : gE ws_56 ws_63 := gE_set e_ws_63 hk_51 (cw_o (fi := 13) (v := .int c2_61) rfl (by decide))
      have hG : Good g ws_63 := Good_set (fi := 13) (v := .int c2_61) e_ws_63 hk_51 E_64 rfl hV9 hG (ivX12 hi_62)
      have Fr_65 : gF [(11, 13)] [] (some h0) ws_56 ws_63 := gF_put (fi := 13) (v := .int c2_61) e_ws_63 hk_51 rfl (by decide)
      have pp_66 := Fr_65.pp
      have hkN := gset_self e_ws_63 hk_51
      have hk_52 := gset_ob e_ws_63 hk_51 hk_52 (by decide)
      have hk_60 := gset_ob e_ws_63 hk_51 hk_60 (by decide)
      have hk_61 := gset_ob e_ws_63 hk_51 hk_61 (by decide)
      have hk_51 := hkN
      have o_h0 := E_64.1 _ _ o_h0
      have o_b_14 := E_64.1 _ _ o_b_14
      have F_b_14 := F_b_14.mo E_64
      have o_r1_51 := E_64.1 _ _ o_r1_51
      have o_r2_51 := E_64.1 _ _ o_r2_51
      have a_r3_51 := E_64.1 _ _ a_r3_51
      have o_r5_51 := E_64.1 _ _ o_r5_51
      have o_r6_51 := E_64.1 _ _ o_r6_51
      have o_r7_51 := E_64.1 _ _ o_r7_51
      have o_r8_51 := E_64.1 _ _ o_r8_51
      have o_r9_51 := E_64.1 _ _ o_r9_51
      have o_r0_1 := E_64.1 _ _ o_r0_1
      have o_r4_1 := E_64.1 _ _ o_r4_1
      have a_r0_52 := E_64.1 _ _ a_r0_52
      have o_r0_60 := E_64.1 _ _ o_r0_60
      have a_r7_60 := E_64.1 _ _ a_r7_60
      have a_r0_61 := E_64.1 _ _ a_r0_61
      have a_r4_61 := E_64.1 _ _ a_r4_61
      have a_r9_61 := E_64.1 _ _ a_r9_61
      have a_r10_61 := E_64.1 _ _ a_r10_61
      have a_r11_61 := E_64.1 _ _ a_r11_61
      refine lv_aload_n hx hb dX12_file_46 rfl (lv_at hl 1 rfl) ?_
      refine lv_aload_n hx hb dX12_file_47 rfl (lv_at hl 1 rfl) ?_
      refine va_get (D := gD g) (ci := 11) (v := .ref r4_1) (C := RX12) (T := TX12) (N := 18) hx hb hts inX12 hown hK hP k_1 hk_51 rfl 4 (by decide) (hts _ kw_332) (fun _ h9 => h9) rfl dX12_file_48 ?_
      refine va_get (D := gD g) (ci := 2) (v := .ref r0_60) (C := RX2) (T := TX2) (N := 12) hx hb hts inX2 hown hK hP k_60 hk_60 rfl 0 (by decide) (hts _ kw_367) (fun _ h9 => h9) rfl dX12_file_51 ?_
      refine va_get (D := gD g) (ci := 6) (v := .int c3_61) (C := RX7) (T := TX7) (N := 17) hx hb hts inX7 hown hK hP k_61 hk_61 rfl 3 (by decide) (hts _ kw_370) (fun _ h9 => h9) rfl dX12_file_54 ?_
      have hV9 : okv ws_63 11 14 (.int c3_61) := okv_i
      refine va_put (D := gD g) (ci := 11) (v := .int c3_61) (ty := .int) (C := RX12) (T := TX12) (N := 18) hx hb hts inX12 tyX12 tyX12_ok nmX12 hown hK hP hD hS k_1 hk_51 rfl 14 (by decide) (hts _ kw_371) (fun _ h9 => h9) rfl (by decide +kernel) rfl rfl (Nat.le_of_ble_eq_true rfl) dX12_file_57 (fun H locs hP hD hS => ?_)
      have hi_67 : invX12 g ws_63 h0 [.ref r0_1, .ref r1_51, .ref r2_51, .ref r3_51, .ref r4_1, .ref r5_51, .ref r6_51, .ref r7_51, .ref r8_51, .ref r9_51, .int c10_51, .int c11_1, .int c12_51, .int c2_61, .int c3_61, .int c15_51, .int c16_51, .int c17_51] := ⟨r0_1, r1_51, r2_51, r3_51, (n3_51), r4_1, r5_51, r6_51, r7_51, r8_51, r9_51, (c10_51), (c11_1), (c12_51), (c2_61), (c3_61), (c15_51), (c16_51), (c17_51), rfl, o_r0_1, o_r1_51, o_r2_51, a_r3_51, f4_51, o_r4_1, o_r5_51, o_r6_51, o_r7_51, o_r8_51, o_r9_51, f11_51, f12_51, f13_51, f14_51, f15_51, f16_51, f17_51, trivial⟩
      obtain ⟨ws_68, e_ws_68⟩ : ∃ z, z = ws_63.set k_1 (h0, .inr (11, [.ref r0_1, .ref r1_51, .ref r2_51, .ref r3_51, .ref r4_1, .ref r5_51, .ref r6_51, .ref r7_51, .ref r8_51, .ref r9_51, .int c10_51, .int c11_1, .int c12_51, .int c2_61, .int c3_61, .int c15_51, .int c16_51, .int c17_51])) := ⟨_, rfl⟩
      have hP : va_P (gD g) cl0 ws_68 H := by rw [e_ws_68]; exact hP
      have hD : va_D A ws_68 := by rw [e_ws_68]; exact hD
      have E_69 : gE ws_63 ws_68 := gE_set e_ws_68 hk_51 (cw_o (fi := 14) (v := .int c3_61) rfl (by decide))
      have hG : Good g ws_68 := Good_set (fi := 14) (v := .int c3_61) e_ws_68 hk_51 E_69 rfl hV9 hG (ivX12 hi_67)
      have Fr_70 : gF [(11, 14)] [] (some h0) ws_63 ws_68 := gF_put (fi := 14) (v := .int c3_61) e_ws_68 hk_51 rfl (by decide)
      have pp_71 := Fr_70.pp
      have hkN := gset_self e_ws_68 hk_51
      have hk_52 := gset_ob e_ws_68 hk_51 hk_52 (by decide)
      have hk_60 := gset_ob e_ws_68 hk_51 hk_60 (by decide)
      have hk_61 := gset_ob e_ws_68 hk_51 hk_61 (by decide)
      have hk_51 := hkN
      have o_h0 := E_69.1 _ _ o_h0
      have o_b_14 := E_69.1 _ _ o_b_14
      have F_b_14 := F_b_14.mo E_69
      have o_r1_51 := E_69.1 _ _ o_r1_51
      have o_r2_51 := E_69.1 _ _ o_r2_51
      have a_r3_51 := E_69.1 _ _ a_r3_51
      have o_r5_51 := E_69.1 _ _ o_r5_51
      have o_r6_51 := E_69.1 _ _ o_r6_51
      have o_r7_51 := E_69.1 _ _ o_r7_51
      have o_r8_51 := E_69.1 _ _ o_r8_51
      have o_r9_51 := E_69.1 _ _ o_r9_51
      have o_r0_1 := E_69.1 _ _ o_r0_1
      have o_r4_1 := E_69.1 _ _ o_r4_1
      have a_r0_52 := E_69.1 _ _ a_r0_52
      have o_r0_60 := E_69.1 _ _ o_r0_60
      have a_r7_60 := E_69.1 _ _ a_r7_60
      have a_r0_61 := E_69.1 _ _ a_r0_61
      have a_r4_61 := E_69.1 _ _ a_r4_61
      have a_r9_61 := E_69.1 _ _ a_r9_61
      have a_r10_61 := E_69.1 _ _ a_r10_61
      have a_r11_61 := E_69.1 _ _ a_r11_61
      refine lv_aload_n hx hb dX12_file_60 rfl (lv_at hl 1 rfl) ?_
      refine lv_aload_n hx hb dX12_file_61 rfl (lv_at hl 0 rfl) ?_
      refine lv_iconst (v := (-1)) hx hb dX12_file_62 (by decide) ?_
      have hFc := gfree hD hS hA
      refine va_calli (va_runV (As := [.ref b_14, .int (-1)]) (rest := []) ⟨hx, hb, hml, hown, hts⟩ (m_X12_keep l g H.size ws_68 h0 b_14 ((-1)) hG o_h0 o_b_14 F_b_14) (cwV 2 hts (gd_V kw_334 kw_408 kw_409 kw_280 kw_407) rfl rfl rfl (by decide +kernel) ⟨Nat.le_of_ble_eq_true rfl, Nat.le_of_ble_eq_true rfl⟩) ⟨gblind, va_recv hK hP (ci := 11) (q0 := k_1) rfl hk_51, fun U hU hW9 => gmk hU hW9 hP hK hD hex hE hS hFc⟩ rfl rfl hl.1 rfl (lv_room (Nat.le_of_ble_eq_true rfl)) dX12_file_63 ⟨(show 0 + dc_10 + 0 ≤ PC ws + (202) from (by have e0 : (0 : Int32).toInt = 0 := (by decide); have q_f_53 := f_53; omega)), (show 0 + ds_11 + 0 ≤ PS ws + (219578) from (by have e0 : (0 : Int32).toInt = 0 := (by decide); have q_f_53 := f_53; omega))⟩) hS (fun q _ h => hFc q h) hFc (fun r_72 ws_73 t9 H1 locs ht9 hvm9 hw9 hB9 hz9 hk9 hS => ?_)
      obtain ⟨E_74, Fr_75, hG, hP1, hD1⟩ := hB9
      have hP : va_P (gD g) cl0 ws_73 H1 := by rw [← ht9]; exact hP1
      have hD : va_D A ws_73 := hD1.weaken (fun _ _ _ h => hFc _ h)
      clear hP1 hD1 hz9 hk9 hvm9 ht9 hw9
      generalize H1 = H at hP hS ⊢
      have aa_78 := a_r3_51
      have aa_79 := a_r0_52
      have aa_80 := a_r7_60
      have aa_81 := a_r0_61
      have aa_82 := a_r4_61
      have aa_83 := a_r9_61
      have aa_84 := a_r10_61
      have aa_85 := a_r11_61
      have o_h0 := E_74.1 _ _ o_h0
      have o_b_14 := E_74.1 _ _ o_b_14
      have F_b_14 := F_b_14.mo E_74
      have pp_86 := Fr_75.pp
      refine W_led (fun hLd => ?_)
      have hcl : 0 + dc_10 + PC ws_73 ≤ PC ws + (202) := (by have e0 : (0 : Int32).toInt = 0 := (by decide); have q_f_53 := f_53; omega)
      have hsl : 0 + ds_11 + PS ws_73 ≤ PS ws + (219578) := (by have e0 : (0 : Int32).toInt = 0 := (by decide); have q_f_53 := f_53; omega)
      refine W.widen (k := PC ws + (202)) (n := PS ws + (219578)) (by omega) (by omega) ?_
      exact W.iret (v := r_72) hx hb hr (fun t9 ht9 hW9 => ⟨⟨_, ws_73, rfl, trivial, ⟨(E_8.tr (E_57.tr (E_64.tr (E_69.tr E_74)))), (gF.tr (gF.mo (F' := [(0, 1), (2, 1), (2, 2), (2, 3), (2, 4), (2, 5), (2, 6), (2, 8), (2, 9), (2, 10), (2, 11), (6, 0), (6, 1), (6, 2), (6, 3), (6, 5), (6, 6), (6, 7), (6, 8), (6, 12), (6, 13), (6, 14), (6, 15), (6, 16), (7, 0), (7, 1), (7, 2), (7, 3), (7, 4), (7, 5), (7, 6), (7, 7), (7, 8), (7, 9), (7, 10), (7, 11), (9, 0), (9, 1), (9, 2), (9, 3), (9, 4), (9, 5), (9, 6), (9, 7), (9, 8), (9, 9), (9, 10), (9, 11), (9, 12), (9, 13), (9, 14), (9, 16), (9, 17), (11, 11), (11, 13), (11, 14)]) (C' := [(2, 7), (6, 4), (6, 9), (6, 10), (6, 11), (7, 0), (7, 1), (7, 3), (7, 5), (7, 6), (7, 7), (7, 8), (9, 5), (9, 6), (9, 7), (9, 9), (9, 10), (9, 11), (9, 12), (9, 13), (11, 3)]) (S' := none) Fr_9 (by decide) (by decide) (Or.inr rfl)) (gF.tr (gF.mo (F' := [(0, 1), (2, 1), (2, 2), (2, 3), (2, 4), (2, 5), (2, 6), (2, 8), (2, 9), (2, 10), (2, 11), (6, 0), (6, 1), (6, 2), (6, 3), (6, 5), (6, 6), (6, 7), (6, 8), (6, 12), (6, 13), (6, 14), (6, 15), (6, 16), (7, 0), (7, 1), (7, 2), (7, 3), (7, 4), (7, 5), (7, 6), (7, 7), (7, 8), (7, 9), (7, 10), (7, 11), (9, 0), (9, 1), (9, 2), (9, 3), (9, 4), (9, 5), (9, 6), (9, 7), (9, 8), (9, 9), (9, 10), (9, 11), (9, 12), (9, 13), (9, 14), (9, 16), (9, 17), (11, 11), (11, 13), (11, 14)]) (C' := [(2, 7), (6, 4), (6, 9), (6, 10), (6, 11), (7, 0), (7, 1), (7, 3), (7, 5), (7, 6), (7, 7), (7, 8), (9, 5), (9, 6), (9, 7), (9, 9), (9, 10), (9, 11), (9, 12), (9, 13), (11, 3)]) (S' := none) Fr_58 (by decide) (fun _ h => absurd h List.not_mem_nil) (Or.inl rfl)) (gF.tr (gF.mo (F' := [(0, 1), (2, 1), (2, 2), (2, 3), (2, 4), (2, 5), (2, 6), (2, 8), (2, 9), (2, 10), (2, 11), (6, 0), (6, 1), (6, 2), (6, 3), (6, 5), (6, 6), (6, 7), (6, 8), (6, 12), (6, 13), (6, 14), (6, 15), (6, 16), (7, 0), (7, 1), (7, 2), (7, 3), (7, 4), (7, 5), (7, 6), (7, 7), (7, 8), (7, 9), (7, 10), (7, 11), (9, 0), (9, 1), (9, 2), (9, 3), (9, 4), (9, 5), (9, 6), (9, 7), (9, 8), (9, 9), (9, 10), (9, 11), (9, 12), (9, 13), (9, 14), (9, 16), (9, 17), (11, 11), (11, 13), (11, 14)]) (C' := [(2, 7), (6, 4), (6, 9), (6, 10), (6, 11), (7, 0), (7, 1), (7, 3), (7, 5), (7, 6), (7, 7), (7, 8), (9, 5), (9, 6), (9, 7), (9, 9), (9, 10), (9, 11), (9, 12), (9, 13), (11, 3)]) (S' := none) Fr_65 (by decide) (fun _ h => absurd h List.not_mem_nil) (Or.inl rfl)) (gF.tr (gF.mo (F' := [(0, 1), (2, 1), (2, 2), (2, 3), (2, 4), (2, 5), (2, 6), (2, 8), (2, 9), (2, 10), (2, 11), (6, 0), (6, 1), (6, 2), (6, 3), (6, 5), (6, 6), (6, 7), (6, 8), (6, 12), (6, 13), (6, 14), (6, 15), (6, 16), (7, 0), (7, 1), (7, 2), (7, 3), (7, 4), (7, 5), (7, 6), (7, 7), (7, 8), (7, 9), (7, 10), (7, 11), (9, 0), (9, 1), (9, 2), (9, 3), (9, 4), (9, 5), (9, 6), (9, 7), (9, 8), (9, 9), (9, 10), (9, 11), (9, 12), (9, 13), (9, 14), (9, 16), (9, 17), (11, 11), (11, 13), (11, 14)]) (C' := [(2, 7), (6, 4), (6, 9), (6, 10), (6, 11), (7, 0), (7, 1), (7, 3), (7, 5), (7, 6), (7, 7), (7, 8), (9, 5), (9, 6), (9, 7), (9, 9), (9, 10), (9, 11), (9, 12), (9, 13), (11, 3)]) (S' := none) Fr_70 (by decide) (fun _ h => absurd h List.not_mem_nil) (Or.inl rfl)) (gF.mo (F' := [(0, 1), (2, 1), (2, 2), (2, 3), (2, 4), (2, 5), (2, 6), (2, 8), (2, 9), (2, 10), (2, 11), (6, 0), (6, 1), (6, 2), (6, 3), (6, 5), (6, 6), (6, 7), (6, 8), (6, 12), (6, 13), (6, 14), (6, 15), (6, 16), (7, 0), (7, 1), (7, 2), (7, 3), (7, 4), (7, 5), (7, 6), (7, 7), (7, 8), (7, 9), (7, 10), (7, 11), (9, 0), (9, 1), (9, 2), (9, 3), (9, 4), (9, 5), (9, 6), (9, 7), (9, 8), (9, 9), (9, 10), (9, 11), (9, 12), (9, 13), (9, 14), (9, 16), (9, 17), (11, 11), (11, 13), (11, 14)]) (C' := [(2, 7), (6, 4), (6, 9), (6, 10), (6, 11), (7, 0), (7, 1), (7, 3), (7, 5), (7, 6), (7, 7), (7, 8), (9, 5), (9, 6), (9, 7), (9, 9), (9, 10), (9, 11), (9, 12), (9, 13), (11, 3)]) (S' := none) Fr_75 (by decide) (by decide) (Or.inr rfl)))))), hG, by rw [ht9]; exact hP, hD, _, _, by rw [ht9]; exact hLd, hcl, hsl⟩⟩, hS.F ht9⟩) hS.2.2 dX12_file_66
  · refine lv_bipush (v := (-2)) hx hb dX12_file_9 (by decide) ?_
    refine W_led (fun hLd => ?_)
    have hcl : 0 + PC ws ≤ PC ws + (202) := (by have e0 : (0 : Int32).toInt = 0 := (by decide); omega)
    have hsl : 0 + PS ws ≤ PS ws + (219578) := (by have e0 : (0 : Int32).toInt = 0 := (by decide); omega)
    refine W.widen (k := PC ws + (202)) (n := PS ws + (219578)) (by omega) (by omega) ?_
    exact W.iret (v := (-2)) hx hb hr (fun t9 ht9 hW9 => ⟨⟨_, ws, rfl, trivial, ⟨gE.rf, gF.rf, hG, by rw [ht9]; exact hP, hD, _, _, by rw [ht9]; exact hLd, hcl, hsl⟩⟩, hS.F ht9⟩) hS.2.2 dX12_file_11
