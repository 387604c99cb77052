set_option maxHeartbeats 1000000 in
set_option maxRecDepth 100000 in
theorem m_X11_fieldEntryOf_x (l : Launch) (g : Gm) (H0 : Heap) (ws : va_W) (h0 : Nat) (x1 : Int32) (wb : Int) (wc : Int) (hG : Good g ws) (o_h0 : gC ws h0 10) (tk0 : enP g ws h0) (tk1 : wcP ws h0 0 wb wc) (pw3 : wc ≤ 103) (pwc : 0 ≤ wb ∧ 0 ≤ wc ∧ (wb) ≤ 131072 ∧ (103) ≤ 131072) : Met l yX11_fieldEntryOf (wt yX11_fieldEntryOf cX11_fieldEntryOf 3 (some .int)) ({ frames := 5, cells := PC ws + (0), slots := PS ws + (0), locals := 129 }) (va_Pc [.ref h0, .int x1] (st_H g H0 ws)) (va_Qi (fun (r : Int32) (u9 : va_W) => (True) ∧ (enP g u9 h0) ∧ (wcP u9 h0 0 (wb) (103))) (gQ2 g [(0, 0), (0, 1), (10, 5), (10, 6)] [(0, 0), (6, 0), (10, 3), (10, 4), (10, 12)] none (va_A ws H0.size) ws H0 (0) (0)) (va_A ws H0.size)) (PC ws + (0)) (PS ws + (0)) (va_A ws H0.size) := by
  refine Met.ofW (cc := cX11_fieldEntryOf) (maxL := 3) (ret := (some .int)) (by decide) rfl ?_
  intro p e s m args below meth c s₁ B hml hv
  obtain ⟨rfl, hH0, hsz, hP, hK, hD0, hex, hE⟩ := hv
  have hx := B.exec
  have hb := B.bytes
  have hr := B.returns
  have hts0 := atoms_spec (ws := wt yX11_fieldEntryOf cX11_fieldEntryOf 3 (some .int)) B.pre
  have hts : ∀ w ∈ tb, w.before _ s = true := fun w h => hts0 w (List.mem_cons_of_mem _ h)
  have hown : s.vm.findClass RX11 = some m.cls := findClass_of_methodNamed B.named
  subst hH0
  have hD := hD0.self (sz := s.heap.size)
  generalize hAe : va_A ws s.heap.size = A at hD hE ⊢
  have hA : ∀ q : Nat, s.heap.size ≤ q → A q := fun q h => by rw [← hAe]; exact Or.inr h
  have hS : va_S A s.heap s.heap [] := va_S.rf
  have hl := lv_entry ([.ref h0, .int x1]) (n := 3) (Nat.le_of_ble_eq_true rfl)
  rw [lg_entry_eq]
  generalize (lg_sl ([.ref h0, .int x1]) ++ List.replicate (3 - (lg_sl ([.ref h0, .int x1])).length) Slot.unset).toArray = ls at hl ⊢
  have hl : lv_has ls 3 [(0, .ref h0), (1, .int x1)] := hl
  refine lv_iload_n hx hb dX11_fieldEntryOf_0 rfl (lv_at hl 1 rfl) ?_
  have J_13 : ∀ (dc_13_1 : Nat) (ds_13_1 : Nat) (H : Heap) (locs : List Loc) (ls : Array Slot), dc_13_1 + PC ws ≤ PC ws + (0) → ds_13_1 + PS ws ≤ PS ws + (0) → va_P (gD g) cl0 ws H → va_D A ws → va_S A s.heap H locs → lv_has ls 3 [] → W p l e (headSpec (wt yX11_fieldEntryOf cX11_fieldEntryOf 3 (some .int)) ({ frames := 5, cells := PC ws + (0), slots := PS ws + (0), locals := 129 })).room s m ([.ref h0, .int x1] : List Value).toArray below meth c H locs (dc_13_1) (ds_13_1) (MQ below (va_Qi (fun (r : Int32) (u9 : va_W) => (True) ∧ (enP g u9 h0) ∧ (wcP u9 h0 0 (wb) (103))) (gQ2 g [(0, 0), (0, 1), (10, 5), (10, 6)] [(0, 0), (6, 0), (10, 3), (10, 4), (10, 12)] none A ws s.heap (0) (0)) A) ([.ref h0, .int x1] : List Value).toArray s (PC ws + (0)) (PS ws + (0)) A) (F0 m 13 ls []) := by
    intro dc_13_1 ds_13_1 H locs ls  hc9 hs9 hP hD hS hl
    refine lv_iconst (v := 0) hx hb dX11_fieldEntryOf_13 (by decide) ?_
    refine W_led (fun hLd => ?_)
    have hcl : dc_13_1 + PC ws ≤ PC ws + (0) := (by omega)
    have hsl : ds_13_1 + PS ws ≤ PS ws + (0) := (by omega)
    refine W.widen (k := PC ws + (0)) (n := PS ws + (0)) (by omega) (by omega) ?_
    have tq_3 : wcP ws h0 0 (wb) (103) := wcP_le (by have e0 : (0 : Int32).toInt = 0 := (by decide); have e09 : (0 : Int32).toInt = 0 := rfl; omega) (by have q_pwc := pwc; have q_pw3 := pw3; have e09 : (0 : Int32).toInt = 0 := rfl; omega) (by have e103 : (103 : Int32).toInt = 103 := (by decide); have q_pw3 := pw3; have q_pwc := pwc; have e09 : (0 : Int32).toInt = 0 := rfl; omega) tk1
    exact W.iret (v := 0) hx hb hr (fun t9 ht9 hW9 => ⟨⟨_, ws, rfl, ⟨trivial, tk0, tq_3⟩, ⟨gE.rf, gF.rf, hG, by rw [ht9]; exact hP, hD, _, _, by rw [ht9]; exact hLd, hcl, hsl⟩⟩, hS.F ht9⟩) hS.2.2 dX11_fieldEntryOf_14
  refine lv_if_lt (tgt := 13) hx hb dX11_fieldEntryOf_1 (by decide) (fun c_4 => ?_) (fun c_4 => ?_)
  · exact J_13 (0) (0) _ _ ls (by have e0 : (0 : Int32).toInt = 0 := (by decide); omega) (by have e0 : (0 : Int32).toInt = 0 := (by decide); omega) hP hD hS (lv_sub hl [] rfl)
  · refine lv_iload_n hx hb dX11_fieldEntryOf_4 rfl (lv_at hl 1 rfl) ?_
    refine lv_aload_n hx hb dX11_fieldEntryOf_5 rfl (lv_at hl 0 rfl) ?_
    obtain ⟨k_5, fs9, hk_5⟩ := gC_of o_h0
    obtain ⟨r0_5, r1_5, r2_5, r3_5, n3_5, r4_5, n4_5, c5_5, c6_5, v7_5, c8_5, c9_5, r10_5, n10_5, r11_5, n11_5, r12_5, n12_5, r13_5, n13_5, r14_5, v15_5, r16_5, n16_5, r17_5, n17_5, rfl, o_r0_5, o_r1_5, o_r2_5, a_r3_5, f4_5, a_r4_5, f6_5, hz_c6_5, o_v7_5, a_r10_5, f10_5, a_r11_5, f12_5, a_r12_5, f14_5, a_r13_5, f16_5, o_r14_5, o_v15_5, a_r16_5, f20_5, a_r17_5, f22_5, f23_5, f24_5, f25_5, f26_5, f27_5, f28_5, -⟩ := (hG.1 _ _ _ _ hk_5).hX11 rfl
    refine va_get (D := gD g) (ci := 10) (v := .ref r12_5) (C := RX11) (T := TX11) (N := 18) hx hb hts inX11 hown hK hP k_5 hk_5 rfl 12 (by decide) (hts _ kw_116) (fun _ h9 => h9) rfl dX11_fieldEntryOf_6 ?_
    obtain ⟨k_6, f_6, hk_6⟩ := gI_of a_r12_5
    obtain ⟨z_7, ez_7⟩ : ∃ z : Int32, Int32.ofNat n12_5 = z := ⟨_, rfl⟩
    refine va_alen (v := z_7) hx hb hK hP k_6 1 hk_6 rfl ez_7 dX11_fieldEntryOf_9 ?_
    refine lv_icmp_lt (tgt := 15) hx hb dX11_fieldEntryOf_10 (by decide) (fun c_8 => ?_) (fun c_8 => ?_)
    · refine lv_aload_n hx hb dX11_fieldEntryOf_15 rfl (lv_at hl 0 rfl) ?_
      refine va_get (D := gD g) (ci := 10) (v := .ref r12_5) (C := RX11) (T := TX11) (N := 18) hx hb hts inX11 hown hK hP k_5 hk_5 rfl 12 (by decide) (hts _ kw_116) (fun _ h9 => h9) rfl dX11_fieldEntryOf_16 ?_
      refine lv_iload_n hx hb dX11_fieldEntryOf_19 rfl (lv_at hl 1 rfl) ?_
      refine va_iald hx hb hK hP k_6 1 hk_6 rfl (i_in2 (by have e0 : (0 : Int32).toInt = 0 := (by decide); have q_c_4 := i_nlt c_4; have q_f14_5 := f14_5; have q_f27_5 := f27_5; have q_z_7 := i_len ez_7 f14_5; have q_c_8 := i_lt c_8; have g_x1 := i_rg x1; have g_z_7 := i_rg z_7; omega)) dX11_fieldEntryOf_20 ?_
      refine lv_topi (fun z_9 ez_9 => ?_)
      have J_60 : ∀ (dc_60_2 : Nat) (ds_60_2 : Nat) (ws_10 : va_W) (H : Heap) (locs : List Loc) (ls : Array Slot), gE ws ws_10 → gF [(0, 0), (0, 1), (10, 5), (10, 6)] [(0, 0), (6, 0), (10, 3), (10, 4), (10, 12)] none ws ws_10 → Good g ws_10 → dc_60_2 + PC ws_10 ≤ PC ws + (0) → ds_60_2 + PS ws_10 ≤ PS ws + (0) → enP g ws_10 h0 → wcP ws_10 h0 0 (wb) (103) → va_P (gD g) cl0 ws_10 H → va_D A ws_10 → va_S A s.heap H locs → lv_has ls 3 [(0, .ref h0), (1, .int x1)] → W p l e (headSpec (wt yX11_fieldEntryOf cX11_fieldEntryOf 3 (some .int)) ({ frames := 5, cells := PC ws + (0), slots := PS ws + (0), locals := 129 })).room s m ([.ref h0, .int x1] : List Value).toArray below meth c H locs (dc_60_2) (ds_60_2) (MQ below (va_Qi (fun (r : Int32) (u9 : va_W) => (True) ∧ (enP g u9 h0) ∧ (wcP u9 h0 0 (wb) (103))) (gQ2 g [(0, 0), (0, 1), (10, 5), (10, 6)] [(0, 0), (6, 0), (10, 3), (10, 4), (10, 12)] none A ws s.heap (0) (0)) A) ([.ref h0, .int x1] : List Value).toArray s (PC ws + (0)) (PS ws + (0)) A) (F0 m 60 ls []) := by
        intro dc_60_2 ds_60_2 ws_10 H locs ls  E_11 Fr_12 hG hc9 hs9 jx_60_0 jx_60_1 hP hD hS hl
        have aa_13 := a_r3_5
        have aa_14 := a_r4_5
        have aa_15 := a_r10_5
        have aa_16 := a_r11_5
        have aa_17 := a_r12_5
        have aa_18 := a_r13_5
        have aa_19 := a_r16_5
        have aa_20 := a_r17_5
        have o_h0 := E_11.1 _ _ o_h0
        refine lv_aload_n hx hb dX11_fieldEntryOf_60 rfl (lv_at hl 0 rfl) ?_
        obtain ⟨fs9, hk_21, hq_21⟩ := ((gF.a (F' := [(0, 0), (0, 1), (10, 5), (10, 6)]) Fr_12 (fun _ h => h))) _ _ _ hk_5
        obtain ⟨r0_21, r1_21, r2_21, r3_21, n3_21, r4_21, n4_21, c5_21, c6_21, v7_21, c8_21, c9_21, r10_21, n10_21, r11_21, n11_21, r12_21, n12_21, r13_21, n13_21, r14_21, v15_21, r16_21, n16_21, r17_21, n17_21, rfl, o_r0_21, o_r1_21, o_r2_21, a_r3_21, f4_21, a_r4_21, f6_21, hz_c6_21, o_v7_21, a_r10_21, f10_21, a_r11_21, f12_21, a_r12_21, f14_21, a_r13_21, f16_21, o_r14_21, o_v15_21, a_r16_21, f20_21, a_r17_21, f22_21, f23_21, f24_21, f25_21, f26_21, f27_21, f28_21, -⟩ := (hG.1 _ _ _ _ hk_21).hX11 rfl
        obtain rfl := fe_q (hq_21 7 (by decide))
        have o_v7_5 := o_v7_21
        obtain rfl := fe_i (hq_21 9 (by decide))
        obtain rfl := fe_r (hq_21 10 (by decide))
        have hn9 := gI_n hD ((E_11).1 _ _ aa_15) a_r10_21
        subst hn9
        have a_r10_5 := a_r10_21
        obtain rfl := fe_r (hq_21 11 (by decide))
        have hn9 := gI_n hD ((E_11).1 _ _ aa_16) a_r11_21
        subst hn9
        have a_r11_5 := a_r11_21
        obtain rfl := fe_r (hq_21 12 (by decide))
        have hn9 := gI_n hD ((E_11).1 _ _ aa_17) a_r12_21
        subst hn9
        have a_r12_5 := a_r12_21
        obtain rfl := fe_q (hq_21 15 (by decide))
        have o_v15_5 := o_v15_21
        refine va_get (D := gD g) (ci := 10) (v := .ref r12_5) (C := RX11) (T := TX11) (N := 18) hx hb hts inX11 hown hK hP k_5 hk_21 rfl 12 (by decide) (hts _ kw_116) (fun _ h9 => h9) rfl dX11_fieldEntryOf_61 ?_
        refine lv_iload_n hx hb dX11_fieldEntryOf_64 rfl (lv_at hl 1 rfl) ?_
        obtain ⟨k_22, f_22, hk_22⟩ := gI_of a_r12_5
        refine va_iald hx hb hK hP k_22 1 hk_22 rfl (i_in2 (by have e0 : (0 : Int32).toInt = 0 := (by decide); have q_c_4 := i_nlt c_4; have q_f14_5 := f14_5; have q_f27_5 := f27_5; have q_z_7 := i_len ez_7 f14_5; have q_c_8 := i_lt c_8; have g_x1 := i_rg x1; have g_z_7 := i_rg z_7; omega)) dX11_fieldEntryOf_65 ?_
        refine lv_topi (fun z_23 ez_23 => ?_)
        refine W_led (fun hLd => ?_)
        have hcl : dc_60_2 + PC ws_10 ≤ PC ws + (0) := (by omega)
        have hsl : ds_60_2 + PS ws_10 ≤ PS ws + (0) := (by omega)
        refine W.widen (k := PC ws + (0)) (n := PS ws + (0)) (by omega) (by omega) ?_
        exact W.iret (v := z_23) hx hb hr (fun t9 ht9 hW9 => ⟨⟨_, ws_10, rfl, ⟨trivial, jx_60_0, jx_60_1⟩, ⟨E_11, Fr_12, hG, by rw [ht9]; exact hP, hD, _, _, by rw [ht9]; exact hLd, hcl, hsl⟩⟩, hS.F ht9⟩) hS.2.2 dX11_fieldEntryOf_66
      refine lv_if_ne (tgt := 60) hx hb dX11_fieldEntryOf_21 (by decide) (fun c_24 => ?_) (fun c_24 => ?_)
      · have tq_25 : wcP ws h0 0 (wb) (103) := wcP_le (by have e0 : (0 : Int32).toInt = 0 := (by decide); have e09 : (0 : Int32).toInt = 0 := rfl; omega) (by have q_pwc := pwc; have q_pw3 := pw3; have e09 : (0 : Int32).toInt = 0 := rfl; omega) (by have e103 : (103 : Int32).toInt = 103 := (by decide); have q_pw3 := pw3; have q_pwc := pwc; have e09 : (0 : Int32).toInt = 0 := rfl; omega) tk1
        exact J_60 (0) (0) ws _ _ ls (gE.rf) (gF.rf) hG (by have e0 : (0 : Int32).toInt = 0 := (by decide); omega) (by have e0 : (0 : Int32).toInt = 0 := (by decide); omega) tk0 tq_25 hP hD hS (lv_sub hl [0, 1] rfl)
      · refine lv_aload_n hx hb dX11_fieldEntryOf_24 rfl (lv_at hl 0 rfl) ?_
        refine lv_bipush (v := 12) hx hb dX11_fieldEntryOf_25 (by decide) ?_
        refine lv_aload_n hx hb dX11_fieldEntryOf_27 rfl (lv_at hl 0 rfl) ?_
        refine va_get (D := gD g) (ci := 10) (v := .ref r10_5) (C := RX11) (T := TX11) (N := 18) hx hb hts inX11 hown hK hP k_5 hk_5 rfl 10 (by decide) (hts _ kw_126) (fun _ h9 => h9) rfl dX11_fieldEntryOf_28 ?_
        refine lv_iload_n hx hb dX11_fieldEntryOf_31 rfl (lv_at hl 1 rfl) ?_
        obtain ⟨k_26, f_26, hk_26⟩ := gI_of a_r10_5
        refine va_iald hx hb hK hP k_26 1 hk_26 rfl (i_in2 (by have e0 : (0 : Int32).toInt = 0 := (by decide); have q_c_4 := i_nlt c_4; have q_f10_5 := f10_5; have q_f25_5 := f25_5; have q_c_8 := i_lt c_8; have q_z_7 := i_len ez_7 f14_5; have q_f14_5 := f14_5; have q_f27_5 := f27_5; have g_x1 := i_rg x1; have g_z_7 := i_rg z_7; omega)) dX11_fieldEntryOf_32 ?_
        refine lv_topi (fun z_27 ez_27 => ?_)
        refine lv_aload_n hx hb dX11_fieldEntryOf_33 rfl (lv_at hl 0 rfl) ?_
        refine va_get (D := gD g) (ci := 10) (v := .ref r11_5) (C := RX11) (T := TX11) (N := 18) hx hb hts inX11 hown hK hP k_5 hk_5 rfl 11 (by decide) (hts _ kw_128) (fun _ h9 => h9) rfl dX11_fieldEntryOf_34 ?_
        refine lv_iload_n hx hb dX11_fieldEntryOf_37 rfl (lv_at hl 1 rfl) ?_
        obtain ⟨k_28, f_28, hk_28⟩ := gI_of a_r11_5
        refine va_iald hx hb hK hP k_28 1 hk_28 rfl (i_in2 (by have e0 : (0 : Int32).toInt = 0 := (by decide); have q_c_4 := i_nlt c_4; have q_f12_5 := f12_5; have q_f26_5 := f26_5; have q_c_8 := i_lt c_8; have q_z_7 := i_len ez_7 f14_5; have q_f14_5 := f14_5; have q_f27_5 := f27_5; have g_x1 := i_rg x1; have g_z_7 := i_rg z_7; omega)) dX11_fieldEntryOf_38 ?_
        refine lv_topi (fun z_29 ez_29 => ?_)
        have hFc := gfree hD hS hA
        have pg_30 := ge_10_17 hD hk_5 rfl a_r17_5
        refine W_led (fun hL0 => ?_)
        refine va_calli (va_runV (As := [.int 12, .int z_27, .int z_29]) (rest := []) ⟨hx, hb, hml, hown, hts⟩ (m_X11_pointersEntry l g s.heap ws h0 (12) (z_27) (z_29) wb wc hG o_h0 tk0 tk1 (by have q_pw3 := pw3; have q_pwc := pwc; omega)) (cwV 3 hts (gd_V kw_153 kw_234 kw_235 kw_83 kw_233) rfl rfl rfl (by decide +kernel) ⟨Nat.le_of_ble_eq_true rfl, Nat.le_of_ble_eq_true rfl⟩) ⟨gblindH, va_recv hK hP (ci := 10) (q0 := k_5) rfl hk_5, fun U hU hW9 => gmkH hU hW9 hP hK hD hex hE hS hFc⟩ rfl rfl hl.1 rfl (lv_room (Nat.le_of_ble_eq_true rfl)) dX11_fieldEntryOf_39 ⟨(show 0 + (PC ws + (0)) ≤ PC ws + (0) from (by have e0 : (0 : Int32).toInt = 0 := (by decide); omega)), (show 0 + (PS ws + (0)) ≤ PS ws + (0) from (by have e0 : (0 : Int32).toInt = 0 := (by decide); omega))⟩) hS (fun q _ h => hFc q h) hFc (fun r_31 ws_32 t9 H1 locs ht9 hvm9 hw9 hB9 hz9 hk9 hS => ?_)
        obtain ⟨E_33, Fr_34, hG, hP1, hD1, dc_35, ds_36, hLd, hdc_35, hds_36⟩ := hB9
        rw [ht9] at hLd
        refine W_tight (hL0.tr hLd).1 (hL0.tr hLd).2.1 ?_
        clear hL0 hLd
        have hP : va_P (gD g) cl0 ws_32 H1 := by rw [← ht9]; exact hP1
        have hD : va_D A ws_32 := hD1.weaken (fun _ _ _ h => hFc _ h)
        obtain ⟨hw9, xp_37, xp_38⟩ := hw9
        clear hP1 hD1 hz9 hk9 hvm9 ht9 hw9
        generalize H1 = H at hP hS ⊢
        have aa_39 := a_r3_5
        have aa_40 := a_r4_5
        have aa_41 := a_r10_5
        have aa_42 := a_r11_5
        have aa_43 := a_r12_5
        have aa_44 := a_r13_5
        have aa_45 := a_r16_5
        have aa_46 := a_r17_5
        have o_h0 := E_33.1 _ _ o_h0
        refine lv_istore_n (lv' := [(2, .int r_31), (0, .ref h0), (1, .int x1)]) hx hb dX11_fieldEntryOf_42 rfl hl (by decide) rfl (fun ls hl => ?_)
        refine lv_aload_n hx hb dX11_fieldEntryOf_43 rfl (lv_at hl 1 rfl) ?_
        obtain ⟨fs9, hk_47, hq_47⟩ := ((gF.a (F' := [(0, 0), (0, 1), (10, 5), (10, 6)]) Fr_34 (fun _ h => h))) _ _ _ hk_5
        obtain ⟨r0_47, r1_47, r2_47, r3_47, n3_47, r4_47, n4_47, c5_47, c6_47, v7_47, c8_47, c9_47, r10_47, n10_47, r11_47, n11_47, r12_47, n12_47, r13_47, n13_47, r14_47, v15_47, r16_47, n16_47, r17_47, n17_47, rfl, o_r0_47, o_r1_47, o_r2_47, a_r3_47, f4_47, a_r4_47, f6_47, hz_c6_47, o_v7_47, a_r10_47, f10_47, a_r11_47, f12_47, a_r12_47, f14_47, a_r13_47, f16_47, o_r14_47, o_v15_47, a_r16_47, f20_47, a_r17_47, f22_47, f23_47, f24_47, f25_47, f26_47, f27_47, f28_47, -⟩ := (hG.1 _ _ _ _ hk_47).hX11 rfl
        obtain rfl := fe_q (hq_47 7 (by decide))
        have o_v7_5 := o_v7_47
        obtain rfl := fe_i (hq_47 9 (by decide))
        obtain rfl := fe_r (hq_47 10 (by decide))
        have hn9 := gI_n hD ((E_33).1 _ _ aa_41) a_r10_47
        subst hn9
        have a_r10_5 := a_r10_47
        obtain rfl := fe_r (hq_47 11 (by decide))
        have hn9 := gI_n hD ((E_33).1 _ _ aa_42) a_r11_47
        subst hn9
        have a_r11_5 := a_r11_47
        obtain rfl := fe_r (hq_47 12 (by decide))
        have hn9 := gI_n hD ((E_33).1 _ _ aa_43) a_r12_47
        subst hn9
        have a_r12_5 := a_r12_47
        obtain rfl := fe_q (hq_47 15 (by decide))
        have o_v15_5 := o_v15_47
        refine va_get (D := gD g) (ci := 10) (v := .ref r12_5) (C := RX11) (T := TX11) (N := 18) hx hb hts inX11 hown hK hP k_5 hk_47 rfl 12 (by decide) (hts _ kw_116) (fun _ h9 => h9) rfl dX11_fieldEntryOf_44 ?_
        refine lv_iload_n hx hb dX11_fieldEntryOf_47 rfl (lv_at hl 2 rfl) ?_
        refine lv_aload_n hx hb dX11_fieldEntryOf_48 rfl (lv_at hl 1 rfl) ?_
        refine lv_bipush (v := 9) hx hb dX11_fieldEntryOf_49 (by decide) ?_
        refine lv_aload_n hx hb dX11_fieldEntryOf_51 rfl (lv_at hl 1 rfl) ?_
        refine va_get (D := gD g) (ci := 10) (v := .int c9_5) (C := RX11) (T := TX11) (N := 18) hx hb hts inX11 hown hK hP k_5 hk_47 rfl 9 (by decide) (hts _ kw_122) (fun _ h9 => h9) rfl dX11_fieldEntryOf_52 ?_
        refine lv_iload_n hx hb dX11_fieldEntryOf_55 rfl (lv_at hl 0 rfl) ?_
        have hFc := gfree hD hS hA
        have pg_48 := ge_10_17 hD hk_47 rfl a_r17_47
        refine W_led (fun hL0 => ?_)
        refine va_calli (va_runV (As := [.int 9, .int c9_5, .int r_31]) (rest := [.int x1, .ref r12_5]) ⟨hx, hb, hml, hown, hts⟩ (m_X11_pointersEntry l g H ws_32 h0 (9) (c9_5) (r_31) (wb) (5) hG o_h0 xp_37 xp_38 (by have e5 : (5 : Int32).toInt = 5 := (by decide); have q_pwc := pwc; have q_pw3 := pw3; omega)) (cwV 3 hts (gd_V kw_153 kw_234 kw_235 kw_83 kw_233) rfl rfl rfl (by decide +kernel) ⟨Nat.le_of_ble_eq_true rfl, Nat.le_of_ble_eq_true rfl⟩) ⟨gblindH, va_recv hK hP (ci := 10) (q0 := k_5) rfl hk_47, fun U hU hW9 => gmkH hU hW9 hP hK hD hex hE hS hFc⟩ rfl rfl hl.1 rfl (lv_room (Nat.le_of_ble_eq_true rfl)) dX11_fieldEntryOf_56 ⟨(show 0 + dc_35 + (PC ws_32 + (0)) ≤ PC ws + (0) from (by have e0 : (0 : Int32).toInt = 0 := (by decide); omega)), (show 0 + ds_36 + (PS ws_32 + (0)) ≤ PS ws + (0) from (by have e0 : (0 : Int32).toInt = 0 := (by decide); omega))⟩) hS (fun q _ h => hFc q h) hFc (fun r_49 ws_50 t9 H1 locs ht9 hvm9 hw9 hB9 hz9 hk9 hS => ?_)
        obtain ⟨E_51, Fr_52, hG, hP1, hD1, dc_53, ds_54, hLd, hdc_53, hds_54⟩ := hB9
        rw [ht9] at hLd
        refine W_tight (hL0.tr hLd).1 (hL0.tr hLd).2.1 ?_
        clear hL0 hLd
        have hP : va_P (gD g) cl0 ws_50 H1 := by rw [← ht9]; exact hP1
        have hD : va_D A ws_50 := hD1.weaken (fun _ _ _ h => hFc _ h)
        obtain ⟨hw9, xp_55, xp_56⟩ := hw9
        clear hP1 hD1 hz9 hk9 hvm9 ht9 hw9
        generalize H1 = H at hP hS ⊢
        have aa_57 := a_r3_47
        have aa_58 := a_r4_47
        have aa_59 := a_r10_5
        have aa_60 := a_r11_5
        have aa_61 := a_r12_5
        have aa_62 := a_r13_47
        have aa_63 := a_r16_47
        have aa_64 := a_r17_47
        have o_h0 := E_51.1 _ _ o_h0
        have a_r12_5 := E_51.1 _ _ a_r12_5
        obtain ⟨k_65, f_65, hk_65⟩ := gI_of a_r12_5
        obtain ⟨fs9, hk_66, hq_66⟩ := ((gF.a (F' := [(0, 0), (0, 1), (10, 5), (10, 6)]) Fr_52 (fun _ h => h))) _ _ _ hk_47
        obtain ⟨r0_66, r1_66, r2_66, r3_66, n3_66, r4_66, n4_66, c5_66, c6_66, v7_66, c8_66, c9_66, r10_66, n10_66, r11_66, n11_66, r12_66, n12_66, r13_66, n13_66, r14_66, v15_66, r16_66, n16_66, r17_66, n17_66, rfl, o_r0_66, o_r1_66, o_r2_66, a_r3_66, f4_66, a_r4_66, f6_66, hz_c6_66, o_v7_66, a_r10_66, f10_66, a_r11_66, f12_66, a_r12_66, f14_66, a_r13_66, f16_66, o_r14_66, o_v15_66, a_r16_66, f20_66, a_r17_66, f22_66, f23_66, f24_66, f25_66, f26_66, f27_66, f28_66, -⟩ := (hG.1 _ _ _ _ hk_66).hX11 rfl
        obtain rfl := fe_q (hq_66 7 (by decide))
        have o_v7_5 := o_v7_66
        obtain rfl := fe_i (hq_66 9 (by decide))
        obtain rfl := fe_r (hq_66 10 (by decide))
        have hn9 := gI_n hD ((E_51).1 _ _ aa_59) a_r10_66
        subst hn9
        have a_r10_5 := a_r10_66
        obtain rfl := fe_r (hq_66 11 (by decide))
        have hn9 := gI_n hD ((E_51).1 _ _ aa_60) a_r11_66
        subst hn9
        have a_r11_5 := a_r11_66
        obtain rfl := fe_r (hq_66 12 (by decide))
        have hn9 := gI_n hD ((E_51).1 _ _ aa_61) a_r12_66
        subst hn9
        have a_r12_5 := a_r12_66
        obtain rfl := fe_q (hq_66 15 (by decide))
        have o_v15_5 := o_v15_66
        have hC9 : hol ws_50 r12_5 [(10, 12)] := (hol_u hG.u hk_66 (j := 12) rfl a_r12_5 (by decide))
        have hS9 : holS ws_50 r12_5 none := holS_n
        refine va_iast hx hb hK hP hD hS k_65 1 hk_65 rfl (i_in2 (by have e0 : (0 : Int32).toInt = 0 := (by decide); have q_c_4 := i_nlt c_4; have q_f14_5 := f14_5; have q_f27_5 := f27_5; have q_z_7 := i_len ez_7 f14_5; have q_c_8 := i_lt c_8; have g_x1 := i_rg x1; have g_z_7 := i_rg z_7; omega)) dX11_fieldEntryOf_59 (fun H locs hP hD hS => ?_)
        obtain ⟨ws_67, e_ws_67⟩ : ∃ z, z = ws_50.set k_65 (r12_5, .inl (g.cI, n12_5, .inl (upd f_65 (x1 : Int32).toNatClampNeg r_49))) := ⟨_, rfl⟩
        have hP : va_P (gD g) cl0 ws_67 H := by rw [e_ws_67]; exact hP
        have hD : va_D A ws_67 := by rw [e_ws_67]; exact hD
        have E_68 : gE ws_50 ws_67 := gE_ari e_ws_67 hk_65
        have hG : Good g ws_67 := Good_arI e_ws_67 hk_65 hG
        have Fr_69 : gF [] [(10, 12)] none ws_50 ws_67 := gF_ar e_ws_67 hk_65 rfl hC9 hS9
        have pp_70 := Fr_69.pp
        have hk_66 := gset_arO e_ws_67 hk_65 hk_66
        have o_h0 := E_68.1 _ _ o_h0
        have a_r12_5 := E_68.1 _ _ a_r12_5
        have o_r0_66 := E_68.1 _ _ o_r0_66
        have o_r1_66 := E_68.1 _ _ o_r1_66
        have o_r2_66 := E_68.1 _ _ o_r2_66
        have a_r3_66 := E_68.1 _ _ a_r3_66
        have a_r4_66 := E_68.1 _ _ a_r4_66
        have a_r13_66 := E_68.1 _ _ a_r13_66
        have o_r14_66 := E_68.1 _ _ o_r14_66
        have a_r16_66 := E_68.1 _ _ a_r16_66
        have a_r17_66 := E_68.1 _ _ a_r17_66
        have o_v7_5 : ∀ b, v7_5 = some b → gC ws_67 b 9 := fun b h => E_68.1 _ _ (o_v7_5 b h)
        have a_r10_5 := E_68.1 _ _ a_r10_5
        have a_r11_5 := E_68.1 _ _ a_r11_5
        have o_v15_5 : ∀ b, v15_5 = some b → gC ws_67 b 7 := fun b h => E_68.1 _ _ (o_v15_5 b h)
        have tq_71 : enP g ws_67 h0 := enP_mo (Fr_69) (by decide) (by decide) (by decide) xp_55
        have tq_72 : wcP ws_67 h0 0 ((wb)) (5) := wcP_mo (Fr_69) (by decide) (by decide) (by decide) (by decide) (by decide) xp_56
        have tq_73 : wcP ws_67 h0 0 (wb) (103) := wcP_le (by have e0 : (0 : Int32).toInt = 0 := (by decide); have e09 : (0 : Int32).toInt = 0 := rfl; omega) (by have q_pwc := pwc; have q_pw3 := pw3; have e09 : (0 : Int32).toInt = 0 := rfl; omega) (by have e5 : (5 : Int32).toInt = 5 := (by decide); have e103 : (103 : Int32).toInt = 103 := (by decide); have e09 : (0 : Int32).toInt = 0 := rfl; omega) tq_72
        exact J_60 (0 + dc_35 + dc_53) (0 + ds_36 + ds_54) ws_67 H locs ls ((E_33.tr (E_51.tr E_68))) ((gF.tr (gF.mo (F' := [(0, 0), (0, 1), (10, 5), (10, 6)]) (C' := [(0, 0), (6, 0), (10, 3), (10, 4), (10, 12)]) (S' := none) Fr_34 (fun _ h => h) (by decide) (Or.inr rfl)) (gF.tr (gF.mo (F' := [(0, 0), (0, 1), (10, 5), (10, 6)]) (C' := [(0, 0), (6, 0), (10, 3), (10, 4), (10, 12)]) (S' := none) Fr_52 (fun _ h => h) (by decide) (Or.inr rfl)) (gF.mo (F' := [(0, 0), (0, 1), (10, 5), (10, 6)]) (C' := [(0, 0), (6, 0), (10, 3), (10, 4), (10, 12)]) (S' := none) Fr_69 (fun _ h => absurd h List.not_mem_nil) (by decide) (Or.inr rfl))))) hG (by omega) (by omega) tq_71 tq_73 hP hD hS (lv_sub hl [1, 2] rfl)
    · exact J_13 (0) (0) _ _ ls (by have e0 : (0 : Int32).toInt = 0 := (by decide); omega) (by have e0 : (0 : Int32).toInt = 0 := (by decide); omega) hP hD hS (lv_sub hl [] rfl)
set_option maxHeartbeats 1000000 in
set_option maxRecDepth 100000 in
theorem m_X11_methodEntryOf_x (l : Launch) (g : Gm) (H0 : Heap) (ws : va_W) (h0 : Nat) (x1 : Int32) (wb : Int) (wc : Int) (hG : Good g ws) (o_h0 : gC ws h0 10) (nn_h0_7 : gN ws h0 7) (tk0 : enP g ws h0) (tk1 : nlA9 ws h0) (tk2 : nlA10 ws h0) (tk3 : wcP ws h0 0 wb wc) (pw3 : wc ≤ 103) (pwc : 0 ≤ wb ∧ 0 ≤ wc ∧ (wb) ≤ 131072 ∧ (103) ≤ 131072) : Met l yX11_methodEntryOf (wt yX11_methodEntryOf cX11_methodEntryOf 4 (some .int)) ({ frames := 5, cells := PC ws + (0), slots := PS ws + (0), locals := 129 }) (va_Pc [.ref h0, .int x1] (st_H g H0 ws)) (va_Qi (fun (r : Int32) (u9 : va_W) => (True) ∧ (enP g u9 h0) ∧ (wcP u9 h0 0 (wb) (103))) (gQ2 g [(0, 0), (0, 1), (10, 5), (10, 6)] [(0, 0), (6, 0), (10, 3), (10, 4), (10, 13)] none (va_A ws H0.size) ws H0 (0) (0)) (va_A ws H0.size)) (PC ws + (0)) (PS ws + (0)) (va_A ws H0.size) := by
  refine Met.ofW (cc := cX11_methodEntryOf) (maxL := 4) (ret := (some .int)) (by decide) rfl ?_
  intro p e s m args below meth c s₁ B hml hv
  obtain ⟨rfl, hH0, hsz, hP, hK, hD0, hex, hE⟩ := hv
  have hx := B.exec
  have hb := B.bytes
  have hr := B.returns
  have hts0 := atoms_spec (ws := wt yX11_methodEntryOf cX11_methodEntryOf 4 (some .int)) B.pre
  have hts : ∀ w ∈ tb, w.before _ s = true := fun w h => hts0 w (List.mem_cons_of_mem _ h)
  have hown : s.vm.findClass RX11 = some m.cls := findClass_of_methodNamed B.named
  subst hH0
  have hD := hD0.self (sz := s.heap.size)
  generalize hAe : va_A ws s.heap.size = A at hD hE ⊢
  have hA : ∀ q : Nat, s.heap.size ≤ q → A q := fun q h => by rw [← hAe]; exact Or.inr h
  have hS : va_S A s.heap s.heap [] := va_S.rf
  have hl := lv_entry ([.ref h0, .int x1]) (n := 4) (Nat.le_of_ble_eq_true rfl)
  rw [lg_entry_eq]
  generalize (lg_sl ([.ref h0, .int x1]) ++ List.replicate (4 - (lg_sl ([.ref h0, .int x1])).length) Slot.unset).toArray = ls at hl ⊢
  have hl : lv_has ls 4 [(0, .ref h0), (1, .int x1)] := hl
  obtain ⟨k_1, fs9, hk_1⟩ := gC_of o_h0
  obtain ⟨r0_1, r1_1, r2_1, r3_1, n3_1, r4_1, n4_1, c5_1, c6_1, v7_1, c8_1, c9_1, r10_1, n10_1, r11_1, n11_1, r12_1, n12_1, r13_1, n13_1, r14_1, v15_1, r16_1, n16_1, r17_1, n17_1, rfl, o_r0_1, o_r1_1, o_r2_1, a_r3_1, f4_1, a_r4_1, f6_1, hz_c6_1, o_v7_1, a_r10_1, f10_1, a_r11_1, f12_1, a_r12_1, f14_1, a_r13_1, f16_1, o_r14_1, o_v15_1, a_r16_1, f20_1, a_r17_1, f22_1, f23_1, f24_1, f25_1, f26_1, f27_1, f28_1, -⟩ := (hG.1 _ _ _ _ hk_1).hX11 rfl
  obtain ⟨b_2, hn9⟩ := nn_h0_7 _ _ _ hk_1
  have hn9 := fe_qr hn9
  subst hn9
  have o_b_2 := o_v7_1 _ rfl
  refine lv_iload_n hx hb dX11_methodEntryOf_0 rfl (lv_at hl 1 rfl) ?_
  refine lv_if_lt (tgt := 25) hx hb dX11_methodEntryOf_1 (by decide) (fun c_3 => ?_) (fun c_3 => ?_)
  · refine lv_iconst (v := 0) hx hb dX11_methodEntryOf_25 (by decide) ?_
    refine W_led (fun hLd => ?_)
    have hcl : 0 + PC ws ≤ PC ws + (0) := (by have e0 : (0 : Int32).toInt = 0 := (by decide); omega)
    have hsl : 0 + PS ws ≤ PS ws + (0) := (by have e0 : (0 : Int32).toInt = 0 := (by decide); omega)
    refine W.widen (k := PC ws + (0)) (n := PS ws + (0)) (by omega) (by omega) ?_
    have tq_4 : wcP ws h0 0 (wb) (103) := wcP_le (by have e0 : (0 : Int32).toInt = 0 := (by decide); have e09 : (0 : Int32).toInt = 0 := rfl; omega) (by have q_pwc := pwc; have q_pw3 := pw3; have e09 : (0 : Int32).toInt = 0 := rfl; omega) (by have e103 : (103 : Int32).toInt = 103 := (by decide); have q_pw3 := pw3; have q_pwc := pwc; have e09 : (0 : Int32).toInt = 0 := rfl; omega) tk3
    exact W.iret (v := 0) hx hb hr (fun t9 ht9 hW9 => ⟨⟨_, ws, rfl, ⟨trivial, tk0, tq_4⟩, ⟨gE.rf, gF.rf, hG, by rw [ht9]; exact hP, hD, _, _, by rw [ht9]; exact hLd, hcl, hsl⟩⟩, hS.F ht9⟩) hS.2.2 dX11_methodEntryOf_26
  · refine lv_iload_n hx hb dX11_methodEntryOf_4 rfl (lv_at hl 1 rfl) ?_
    refine lv_aload_n hx hb dX11_methodEntryOf_5 rfl (lv_at hl 0 rfl) ?_
    refine va_get (D := gD g) (ci := 10) (v := .ref r13_1) (C := RX11) (T := TX11) (N := 18) hx hb hts inX11 hown hK hP k_1 hk_1 rfl 13 (by decide) (hts _ kw_118) (fun _ h9 => h9) rfl dX11_methodEntryOf_6 ?_
    obtain ⟨k_5, f_5, hk_5⟩ := gI_of a_r13_1
    obtain ⟨z_6, ez_6⟩ : ∃ z : Int32, Int32.ofNat n13_1 = z := ⟨_, rfl⟩
    refine va_alen (v := z_6) hx hb hK hP k_5 1 hk_5 rfl ez_6 dX11_methodEntryOf_9 ?_
    refine lv_icmp_ge (tgt := 25) hx hb dX11_methodEntryOf_10 (by decide) (fun c_7 => ?_) (fun c_7 => ?_)
    · refine lv_iconst (v := 0) hx hb dX11_methodEntryOf_25 (by decide) ?_
      refine W_led (fun hLd => ?_)
      have hcl : 0 + PC ws ≤ PC ws + (0) := (by have e0 : (0 : Int32).toInt = 0 := (by decide); omega)
      have hsl : 0 + PS ws ≤ PS ws + (0) := (by have e0 : (0 : Int32).toInt = 0 := (by decide); omega)
      refine W.widen (k := PC ws + (0)) (n := PS ws + (0)) (by omega) (by omega) ?_
      have tq_8 : wcP ws h0 0 (wb) (103) := wcP_le (by have e0 : (0 : Int32).toInt = 0 := (by decide); have e09 : (0 : Int32).toInt = 0 := rfl; omega) (by have q_pwc := pwc; have q_pw3 := pw3; have e09 : (0 : Int32).toInt = 0 := rfl; omega) (by have e103 : (103 : Int32).toInt = 103 := (by decide); have q_pw3 := pw3; have q_pwc := pwc; have e09 : (0 : Int32).toInt = 0 := rfl; omega) tk3
      exact W.iret (v := 0) hx hb hr (fun t9 ht9 hW9 => ⟨⟨_, ws, rfl, ⟨trivial, tk0, tq_8⟩, ⟨gE.rf, gF.rf, hG, by rw [ht9]; exact hP, hD, _, _, by rw [ht9]; exact hLd, hcl, hsl⟩⟩, hS.F ht9⟩) hS.2.2 dX11_methodEntryOf_26
    · refine lv_iload_n hx hb dX11_methodEntryOf_13 rfl (lv_at hl 1 rfl) ?_
      refine lv_aload_n hx hb dX11_methodEntryOf_14 rfl (lv_at hl 0 rfl) ?_
      refine va_get (D := gD g) (ci := 10) (v := .ref b_2) (C := RX11) (T := TX11) (N := 18) hx hb hts inX11 hown hK hP k_1 hk_1 rfl 7 (by decide) (hts _ kw_86) (fun _ h9 => h9) rfl dX11_methodEntryOf_15 ?_
      obtain ⟨k_9, fs9, hk_9⟩ := gC_of o_b_2
      obtain ⟨r0_9, n0_9, c1_9, c2_9, c3_9, c4_9, r5_9, n5_9, r6_9, n6_9, r7_9, n7_9, c8_9, r9_9, n9_9, r10_9, n10_9, r11_9, n11_9, r12_9, n12_9, r13_9, n13_9, c14_9, c15_9, c16_9, c17_9, rfl, a_r0_9, f1_9, a_r5_9, f3_9, a_r6_9, f5_9, a_r7_9, f7_9, a_r9_9, f9_9, a_r10_9, f11_9, a_r11_9, f13_9, a_r12_9, f15_9, a_r13_9, f17_9, hz_c15_9, f19_9, f20_9, f21_9, f22_9, f23_9, f24_9, f25_9, f26_9, f27_9, f28_9, -⟩ := (hG.1 _ _ _ _ hk_9).hX10 rfl
      refine va_get (D := gD g) (ci := 9) (v := .ref r9_9) (C := RX10) (T := TX10) (N := 18) hx hb hts inX10 hown hK hP k_9 hk_9 rfl 9 (by decide) (hts _ kw_87) (fun _ h9 => h9) rfl dX11_methodEntryOf_18 ?_
      obtain ⟨k_10, f_10, hk_10⟩ := gI_of a_r9_9
      obtain ⟨z_11, ez_11⟩ : ∃ z : Int32, Int32.ofNat n9_9 = z := ⟨_, rfl⟩
      refine va_alen (v := z_11) hx hb hK hP k_10 1 hk_10 rfl ez_11 dX11_methodEntryOf_21 ?_
      refine lv_icmp_lt (tgt := 27) hx hb dX11_methodEntryOf_22 (by decide) (fun c_12 => ?_) (fun c_12 => ?_)
      · refine lv_aload_n hx hb dX11_methodEntryOf_27 rfl (lv_at hl 0 rfl) ?_
        refine va_get (D := gD g) (ci := 10) (v := .ref r13_1) (C := RX11) (T := TX11) (N := 18) hx hb hts inX11 hown hK hP k_1 hk_1 rfl 13 (by decide) (hts _ kw_118) (fun _ h9 => h9) rfl dX11_methodEntryOf_28 ?_
        refine lv_iload_n hx hb dX11_methodEntryOf_31 rfl (lv_at hl 1 rfl) ?_
        refine va_iald hx hb hK hP k_5 1 hk_5 rfl (i_in2 (by have e0 : (0 : Int32).toInt = 0 := (by decide); have q_f16_1 := f16_1; have q_f28_1 := f28_1; have q_c_3 := i_nlt c_3; have q_z_6 := i_len ez_6 f16_1; have q_c_7 := i_nle c_7; have q_c_12 := i_lt c_12; have q_z_11 := i_len ez_11 f9_9; have q_f9_9 := f9_9; have q_f22_9 := f22_9; have q_f23_9 := f23_9; have q_f24_9 := f24_9; have q_f25_9 := f25_9; have q_f26_9 := f26_9; have q_f27_9 := f27_9; have g_c8_9 := i_rg c8_9; have g_x1 := i_rg x1; have g_z_11 := i_rg z_11; have g_z_6 := i_rg z_6; omega)) dX11_methodEntryOf_32 ?_
        refine lv_topi (fun z_13 ez_13 => ?_)
        have J_88 : ∀ (dc_88_1 : Nat) (ds_88_1 : Nat) (ws_14 : va_W) (H : Heap) (locs : List Loc) (ls : Array Slot), gE ws ws_14 → gF [(0, 0), (0, 1), (10, 5), (10, 6)] [(0, 0), (6, 0), (10, 3), (10, 4), (10, 13)] none ws ws_14 → Good g ws_14 → dc_88_1 + PC ws_14 ≤ PC ws + (0) → ds_88_1 + PS ws_14 ≤ PS ws + (0) → enP g ws_14 h0 → wcP ws_14 h0 0 (wb) (103) → va_P (gD g) cl0 ws_14 H → va_D A ws_14 → va_S A s.heap H locs → lv_has ls 4 [(0, .ref h0), (1, .int x1)] → W p l e (headSpec (wt yX11_methodEntryOf cX11_methodEntryOf 4 (some .int)) ({ frames := 5, cells := PC ws + (0), slots := PS ws + (0), locals := 129 })).room s m ([.ref h0, .int x1] : List Value).toArray below meth c H locs (dc_88_1) (ds_88_1) (MQ below (va_Qi (fun (r : Int32) (u9 : va_W) => (True) ∧ (enP g u9 h0) ∧ (wcP u9 h0 0 (wb) (103))) (gQ2 g [(0, 0), (0, 1), (10, 5), (10, 6)] [(0, 0), (6, 0), (10, 3), (10, 4), (10, 13)] none A ws s.heap (0) (0)) A) ([.ref h0, .int x1] : List Value).toArray s (PC ws + (0)) (PS ws + (0)) A) (F0 m 88 ls []) := by
          intro dc_88_1 ds_88_1 ws_14 H locs ls  E_15 Fr_16 hG hc9 hs9 jx_88_0 jx_88_1 hP hD hS hl
          have aa_17 := a_r3_1
          have aa_18 := a_r4_1
          have aa_19 := a_r10_1
          have aa_20 := a_r11_1
          have aa_21 := a_r12_1
          have aa_22 := a_r13_1
          have aa_23 := a_r16_1
          have aa_24 := a_r17_1
          have aa_25 := a_r0_9
          have aa_26 := a_r5_9
          have aa_27 := a_r6_9
          have aa_28 := a_r7_9
          have aa_29 := a_r9_9
          have aa_30 := a_r10_9
          have aa_31 := a_r11_9
          have aa_32 := a_r12_9
          have aa_33 := a_r13_9
          have o_h0 := E_15.1 _ _ o_h0
          refine lv_aload_n hx hb dX11_methodEntryOf_88 rfl (lv_at hl 0 rfl) ?_
          obtain ⟨fs9, hk_34, hq_34⟩ := ((gF.a (F' := [(0, 0), (0, 1), (10, 5), (10, 6)]) Fr_16 (fun _ h => h))) _ _ _ hk_1
          obtain ⟨r0_34, r1_34, r2_34, r3_34, n3_34, r4_34, n4_34, c5_34, c6_34, v7_34, c8_34, c9_34, r10_34, n10_34, r11_34, n11_34, r12_34, n12_34, r13_34, n13_34, r14_34, v15_34, r16_34, n16_34, r17_34, n17_34, rfl, o_r0_34, o_r1_34, o_r2_34, a_r3_34, f4_34, a_r4_34, f6_34, hz_c6_34, o_v7_34, a_r10_34, f10_34, a_r11_34, f12_34, a_r12_34, f14_34, a_r13_34, f16_34, o_r14_34, o_v15_34, a_r16_34, f20_34, a_r17_34, f22_34, f23_34, f24_34, f25_34, f26_34, f27_34, f28_34, -⟩ := (hG.1 _ _ _ _ hk_34).hX11 rfl
          have hn9 := fe_qr (hq_34 7 (by decide))
          subst hn9
          have o_b_2 := o_v7_34 _ rfl
          obtain rfl := fe_i (hq_34 9 (by decide))
          obtain rfl := fe_r (hq_34 13 (by decide))
          have hn9 := gI_n hD ((E_15).1 _ _ aa_22) a_r13_34
          subst hn9
          have a_r13_1 := a_r13_34
          obtain rfl := fe_q (hq_34 15 (by decide))
          have o_v15_1 := o_v15_34
          refine va_get (D := gD g) (ci := 10) (v := .ref r13_1) (C := RX11) (T := TX11) (N := 18) hx hb hts inX11 hown hK hP k_1 hk_34 rfl 13 (by decide) (hts _ kw_118) (fun _ h9 => h9) rfl dX11_methodEntryOf_89 ?_
          refine lv_iload_n hx hb dX11_methodEntryOf_92 rfl (lv_at hl 1 rfl) ?_
          obtain ⟨k_35, f_35, hk_35⟩ := gI_of a_r13_1
          refine va_iald hx hb hK hP k_35 1 hk_35 rfl (i_in2 (by have e0 : (0 : Int32).toInt = 0 := (by decide); have q_f16_1 := f16_1; have q_f28_1 := f28_1; have q_c_3 := i_nlt c_3; have q_z_6 := i_len ez_6 f16_1; have q_c_7 := i_nle c_7; have q_c_12 := i_lt c_12; have q_z_11 := i_len ez_11 f9_9; have q_f9_9 := f9_9; have q_f22_9 := f22_9; have q_f23_9 := f23_9; have q_f24_9 := f24_9; have q_f25_9 := f25_9; have q_f26_9 := f26_9; have q_f27_9 := f27_9; have g_c8_9 := i_rg c8_9; have g_x1 := i_rg x1; have g_z_11 := i_rg z_11; have g_z_6 := i_rg z_6; omega)) dX11_methodEntryOf_93 ?_
          refine lv_topi (fun z_36 ez_36 => ?_)
          refine W_led (fun hLd => ?_)
          have hcl : dc_88_1 + PC ws_14 ≤ PC ws + (0) := (by omega)
          have hsl : ds_88_1 + PS ws_14 ≤ PS ws + (0) := (by omega)
          refine W.widen (k := PC ws + (0)) (n := PS ws + (0)) (by omega) (by omega) ?_
          exact W.iret (v := z_36) hx hb hr (fun t9 ht9 hW9 => ⟨⟨_, ws_14, rfl, ⟨trivial, jx_88_0, jx_88_1⟩, ⟨E_15, Fr_16, hG, by rw [ht9]; exact hP, hD, _, _, by rw [ht9]; exact hLd, hcl, hsl⟩⟩, hS.F ht9⟩) hS.2.2 dX11_methodEntryOf_94
        refine lv_if_ne (tgt := 88) hx hb dX11_methodEntryOf_33 (by decide) (fun c_37 => ?_) (fun c_37 => ?_)
        · have tq_38 : wcP ws h0 0 (wb) (103) := wcP_le (by have e0 : (0 : Int32).toInt = 0 := (by decide); have e09 : (0 : Int32).toInt = 0 := rfl; omega) (by have q_pwc := pwc; have q_pw3 := pw3; have e09 : (0 : Int32).toInt = 0 := rfl; omega) (by have e103 : (103 : Int32).toInt = 103 := (by decide); have q_pw3 := pw3; have q_pwc := pwc; have e09 : (0 : Int32).toInt = 0 := rfl; omega) tk3
          exact J_88 (0) (0) ws _ _ ls (gE.rf) (gF.rf) hG (by have e0 : (0 : Int32).toInt = 0 := (by decide); omega) (by have e0 : (0 : Int32).toInt = 0 := (by decide); omega) tk0 tq_38 hP hD hS (lv_sub hl [0, 1] rfl)
        · refine lv_aload_n hx hb dX11_methodEntryOf_36 rfl (lv_at hl 0 rfl) ?_
          refine lv_aload_n hx hb dX11_methodEntryOf_37 rfl (lv_at hl 0 rfl) ?_
          refine va_get (D := gD g) (ci := 10) (v := .ref b_2) (C := RX11) (T := TX11) (N := 18) hx hb hts inX11 hown hK hP k_1 hk_1 rfl 7 (by decide) (hts _ kw_86) (fun _ h9 => h9) rfl dX11_methodEntryOf_38 ?_
          refine va_get (D := gD g) (ci := 9) (v := .ref r9_9) (C := RX10) (T := TX10) (N := 18) hx hb hts inX10 hown hK hP k_9 hk_9 rfl 9 (by decide) (hts _ kw_87) (fun _ h9 => h9) rfl dX11_methodEntryOf_41 ?_
          refine lv_iload_n hx hb dX11_methodEntryOf_44 rfl (lv_at hl 1 rfl) ?_
          refine va_iald hx hb hK hP k_10 1 hk_10 rfl (i_in2 (by have e0 : (0 : Int32).toInt = 0 := (by decide); have q_c_3 := i_nlt c_3; have q_c_7 := i_nle c_7; have q_f9_9 := f9_9; have q_f22_9 := f22_9; have q_f23_9 := f23_9; have q_f24_9 := f24_9; have q_f25_9 := f25_9; have q_f26_9 := f26_9; have q_f27_9 := f27_9; have q_z_11 := i_len ez_11 f9_9; have q_c_12 := i_lt c_12; have q_z_6 := i_len ez_6 f16_1; have q_f11_9 := f11_9; have q_f13_9 := f13_9; have q_f15_9 := f15_9; have q_f17_9 := f17_9; have q_f16_1 := f16_1; have q_f28_1 := f28_1; have g_c8_9 := i_rg c8_9; have g_x1 := i_rg x1; have g_z_11 := i_rg z_11; have g_z_6 := i_rg z_6; omega)) dX11_methodEntryOf_45 ?_
          refine lv_topi (fun z_39 ez_39 => ?_)
          have tq_40 : nlP ws h0 z_39 := nlA_at hD hk_1 rfl hk_9 rfl hk_10 ez_39 (by have e0 : (0 : Int32).toInt = 0 := (by decide); have q_c_3 := i_nlt c_3; have q_c_7 := i_nle c_7; have q_f9_9 := f9_9; have q_f22_9 := f22_9; have q_f23_9 := f23_9; have q_f24_9 := f24_9; have q_f25_9 := f25_9; have q_f26_9 := f26_9; have q_f27_9 := f27_9; have q_z_11 := i_len ez_11 f9_9; have q_c_12 := i_lt c_12; have q_z_6 := i_len ez_6 f16_1; have q_f11_9 := f11_9; have q_f13_9 := f13_9; have q_f15_9 := f15_9; have q_f17_9 := f17_9; have q_f16_1 := f16_1; have q_f28_1 := f28_1; have g_c8_9 := i_rg c8_9; have g_x1 := i_rg x1; have g_z_11 := i_rg z_11; have g_z_6 := i_rg z_6; omega) tk1
          have hFc := gfree hD hS hA
          have pg_41 := ge_10_17 hD hk_1 rfl a_r17_1
          refine W_led (fun hL0 => ?_)
          refine va_calli (va_runV (As := [.int z_39]) (rest := []) ⟨hx, hb, hml, hown, hts⟩ (m_X11_nameEntry l g s.heap ws h0 (z_39) wb wc hG o_h0 (gN_of hD hk_1 (j := 7) rfl) tk0 tq_40 tk3 (by have q_pw3 := pw3; have q_pwc := pwc; omega)) (cwV 1 hts (gd_V kw_88 kw_217 kw_218 kw_83 kw_216) rfl rfl rfl (by decide +kernel) ⟨Nat.le_of_ble_eq_true rfl, Nat.le_of_ble_eq_true rfl⟩) ⟨gblindH, va_recv hK hP (ci := 10) (q0 := k_1) rfl hk_1, fun U hU hW9 => gmkH hU hW9 hP hK hD hex hE hS hFc⟩ rfl rfl hl.1 rfl (lv_room (Nat.le_of_ble_eq_true rfl)) dX11_methodEntryOf_46 ⟨(show 0 + (PC ws + (0)) ≤ PC ws + (0) from (by have e0 : (0 : Int32).toInt = 0 := (by decide); omega)), (show 0 + (PS ws + (0)) ≤ PS ws + (0) from (by have e0 : (0 : Int32).toInt = 0 := (by decide); omega))⟩) hS (fun q _ h => hFc q h) hFc (fun r_42 ws_43 t9 H1 locs ht9 hvm9 hw9 hB9 hz9 hk9 hS => ?_)
          obtain ⟨E_44, Fr_45, hG, hP1, hD1, dc_46, ds_47, hLd, hdc_46, hds_47⟩ := hB9
          rw [ht9] at hLd
          refine W_tight (hL0.tr hLd).1 (hL0.tr hLd).2.1 ?_
          clear hL0 hLd
          have hP : va_P (gD g) cl0 ws_43 H1 := by rw [← ht9]; exact hP1
          have hD : va_D A ws_43 := hD1.weaken (fun _ _ _ h => hFc _ h)
          obtain ⟨hw9, xp_48, xp_49⟩ := hw9
          clear hP1 hD1 hz9 hk9 hvm9 ht9 hw9
          generalize H1 = H at hP hS ⊢
          have aa_50 := a_r3_1
          have aa_51 := a_r4_1
          have aa_52 := a_r10_1
          have aa_53 := a_r11_1
          have aa_54 := a_r12_1
          have aa_55 := a_r13_1
          have aa_56 := a_r16_1
          have aa_57 := a_r17_1
          have aa_58 := a_r0_9
          have aa_59 := a_r5_9
          have aa_60 := a_r6_9
          have aa_61 := a_r7_9
          have aa_62 := a_r9_9
          have aa_63 := a_r10_9
          have aa_64 := a_r11_9
          have aa_65 := a_r12_9
          have aa_66 := a_r13_9
          have o_h0 := E_44.1 _ _ o_h0
          refine lv_istore_n (lv' := [(2, .int r_42), (0, .ref h0), (1, .int x1)]) hx hb dX11_methodEntryOf_49 rfl hl (by decide) rfl (fun ls hl => ?_)
          refine lv_aload_n hx hb dX11_methodEntryOf_50 rfl (lv_at hl 1 rfl) ?_
          refine lv_bipush (v := 12) hx hb dX11_methodEntryOf_51 (by decide) ?_
          refine lv_iload_n hx hb dX11_methodEntryOf_53 rfl (lv_at hl 0 rfl) ?_
          refine lv_aload_n hx hb dX11_methodEntryOf_54 rfl (lv_at hl 1 rfl) ?_
          refine lv_aload_n hx hb dX11_methodEntryOf_55 rfl (lv_at hl 1 rfl) ?_
          obtain ⟨fs9, hk_67, hq_67⟩ := ((gF.a (F' := [(0, 0), (0, 1), (10, 5), (10, 6)]) Fr_45 (fun _ h => h))) _ _ _ hk_1
          obtain ⟨r0_67, r1_67, r2_67, r3_67, n3_67, r4_67, n4_67, c5_67, c6_67, v7_67, c8_67, c9_67, r10_67, n10_67, r11_67, n11_67, r12_67, n12_67, r13_67, n13_67, r14_67, v15_67, r16_67, n16_67, r17_67, n17_67, rfl, o_r0_67, o_r1_67, o_r2_67, a_r3_67, f4_67, a_r4_67, f6_67, hz_c6_67, o_v7_67, a_r10_67, f10_67, a_r11_67, f12_67, a_r12_67, f14_67, a_r13_67, f16_67, o_r14_67, o_v15_67, a_r16_67, f20_67, a_r17_67, f22_67, f23_67, f24_67, f25_67, f26_67, f27_67, f28_67, -⟩ := (hG.1 _ _ _ _ hk_67).hX11 rfl
          have hn9 := fe_qr (hq_67 7 (by decide))
          subst hn9
          have o_b_2 := o_v7_67 _ rfl
          obtain rfl := fe_i (hq_67 9 (by decide))
          obtain rfl := fe_r (hq_67 13 (by decide))
          have hn9 := gI_n hD ((E_44).1 _ _ aa_55) a_r13_67
          subst hn9
          have a_r13_1 := a_r13_67
          obtain rfl := fe_q (hq_67 15 (by decide))
          have o_v15_1 := o_v15_67
          refine va_get (D := gD g) (ci := 10) (v := .ref b_2) (C := RX11) (T := TX11) (N := 18) hx hb hts inX11 hown hK hP k_1 hk_67 rfl 7 (by decide) (hts _ kw_86) (fun _ h9 => h9) rfl dX11_methodEntryOf_56 ?_
          obtain ⟨fs9, hk_68, hq_68⟩ := ((gF.a (F' := [(0, 0), (0, 1), (10, 5), (10, 6)]) Fr_45 (fun _ h => h))) _ _ _ hk_9
          obtain ⟨r0_68, n0_68, c1_68, c2_68, c3_68, c4_68, r5_68, n5_68, r6_68, n6_68, r7_68, n7_68, c8_68, r9_68, n9_68, r10_68, n10_68, r11_68, n11_68, r12_68, n12_68, r13_68, n13_68, c14_68, c15_68, c16_68, c17_68, rfl, a_r0_68, f1_68, a_r5_68, f3_68, a_r6_68, f5_68, a_r7_68, f7_68, a_r9_68, f9_68, a_r10_68, f11_68, a_r11_68, f13_68, a_r12_68, f15_68, a_r13_68, f17_68, hz_c15_68, f19_68, f20_68, f21_68, f22_68, f23_68, f24_68, f25_68, f26_68, f27_68, f28_68, -⟩ := (hG.1 _ _ _ _ hk_68).hX10 rfl
          obtain rfl := fe_r (hq_68 9 (by decide))
          have hn9 := gI_n hD ((E_44).1 _ _ aa_62) a_r9_68
          subst hn9
          have a_r9_9 := a_r9_68
          obtain rfl := fe_r (hq_68 10 (by decide))
          have hn9 := gI_n hD ((E_44).1 _ _ aa_63) a_r10_68
          subst hn9
          have a_r10_9 := a_r10_68
          refine va_get (D := gD g) (ci := 9) (v := .ref r10_9) (C := RX10) (T := TX10) (N := 18) hx hb hts inX10 hown hK hP k_9 hk_68 rfl 10 (by decide) (hts _ kw_89) (fun _ h9 => h9) rfl dX11_methodEntryOf_59 ?_
          refine lv_iload_n hx hb dX11_methodEntryOf_62 rfl (lv_at hl 2 rfl) ?_
          obtain ⟨k_69, f_69, hk_69⟩ := gI_of a_r10_9
          refine va_iald hx hb hK hP k_69 1 hk_69 rfl (i_in2 (by have e0 : (0 : Int32).toInt = 0 := (by decide); have q_c_3 := i_nlt c_3; have q_c_7 := i_nle c_7; have q_f11_9 := f11_9; have q_f23_9 := f23_9; have q_c_12 := i_lt c_12; have q_z_6 := i_len ez_6 f16_1; have q_f9_9 := f9_9; have q_f22_9 := f22_9; have q_f24_9 := f24_9; have q_f25_9 := f25_9; have q_f26_9 := f26_9; have q_f27_9 := f27_9; have q_z_11 := i_len ez_11 f9_9; have q_f22_68 := f22_68; have q_f24_68 := f24_68; have q_f25_68 := f25_68; have q_f26_68 := f26_68; have q_f16_1 := f16_1; have q_f28_1 := f28_1; have q_f13_9 := f13_9; have q_f15_9 := f15_9; have q_f17_9 := f17_9; have q_f13_68 := f13_68; have q_f15_68 := f15_68; have q_f17_68 := f17_68; have g_c8_68 := i_rg c8_68; have g_c8_9 := i_rg c8_9; have g_x1 := i_rg x1; have g_z_11 := i_rg z_11; have g_z_6 := i_rg z_6; omega)) dX11_methodEntryOf_63 ?_
          refine lv_topi (fun z_70 ez_70 => ?_)
          have tq_71 : nlA10 ws_43 h0 := nlA10_mo (Fr_45) (by decide) (by decide) (by decide) (by decide) (by decide) tk2
          have tq_72 : nlP ws_43 h0 z_70 := nlA_at hD hk_67 rfl hk_68 rfl hk_69 ez_70 (by have e0 : (0 : Int32).toInt = 0 := (by decide); have q_c_3 := i_nlt c_3; have q_c_7 := i_nle c_7; have q_f11_9 := f11_9; have q_f23_9 := f23_9; have q_c_12 := i_lt c_12; have q_z_6 := i_len ez_6 f16_1; have q_f9_9 := f9_9; have q_f22_9 := f22_9; have q_f24_9 := f24_9; have q_f25_9 := f25_9; have q_f26_9 := f26_9; have q_f27_9 := f27_9; have q_z_11 := i_len ez_11 f9_9; have q_f22_68 := f22_68; have q_f24_68 := f24_68; have q_f25_68 := f25_68; have q_f26_68 := f26_68; have q_f16_1 := f16_1; have q_f28_1 := f28_1; have q_f13_9 := f13_9; have q_f15_9 := f15_9; have q_f17_9 := f17_9; have q_f13_68 := f13_68; have q_f15_68 := f15_68; have q_f17_68 := f17_68; have g_c8_68 := i_rg c8_68; have g_c8_9 := i_rg c8_9; have g_x1 := i_rg x1; have g_z_11 := i_rg z_11; have g_z_6 := i_rg z_6; omega) tq_71
          have hFc := gfree hD hS hA
          have pg_73 := ge_10_17 hD hk_67 rfl a_r17_67
          refine W_led (fun hL0 => ?_)
          refine va_calli (va_runV (As := [.int z_70]) (rest := [.int r_42, .int 12, .ref h0]) ⟨hx, hb, hml, hown, hts⟩ (m_X11_nameEntry l g H ws_43 h0 (z_70) (wb) (103) hG o_h0 (gN_of hD hk_67 (j := 7) rfl) xp_48 tq_72 xp_49 (by have e103 : (103 : Int32).toInt = 103 := (by decide); have q_pwc := pwc; have q_pw3 := pw3; omega)) (cwV 1 hts (gd_V kw_88 kw_217 kw_218 kw_83 kw_216) rfl rfl rfl (by decide +kernel) ⟨Nat.le_of_ble_eq_true rfl, Nat.le_of_ble_eq_true rfl⟩) ⟨gblindH, va_recv hK hP (ci := 10) (q0 := k_1) rfl hk_67, fun U hU hW9 => gmkH hU hW9 hP hK hD hex hE hS hFc⟩ rfl rfl hl.1 rfl (lv_room (Nat.le_of_ble_eq_true rfl)) dX11_methodEntryOf_64 ⟨(show 0 + dc_46 + (PC ws_43 + (0)) ≤ PC ws + (0) from (by have e0 : (0 : Int32).toInt = 0 := (by decide); omega)), (show 0 + ds_47 + (PS ws_43 + (0)) ≤ PS ws + (0) from (by have e0 : (0 : Int32).toInt = 0 := (by decide); omega))⟩) hS (fun q _ h => hFc q h) hFc (fun r_74 ws_75 t9 H1 locs ht9 hvm9 hw9 hB9 hz9 hk9 hS => ?_)
          obtain ⟨E_76, Fr_77, hG, hP1, hD1, dc_78, ds_79, hLd, hdc_78, hds_79⟩ := hB9
          rw [ht9] at hLd
          refine W_tight (hL0.tr hLd).1 (hL0.tr hLd).2.1 ?_
          clear hL0 hLd
          have hP : va_P (gD g) cl0 ws_75 H1 := by rw [← ht9]; exact hP1
          have hD : va_D A ws_75 := hD1.weaken (fun _ _ _ h => hFc _ h)
          obtain ⟨hw9, xp_80, xp_81⟩ := hw9
          clear hP1 hD1 hz9 hk9 hvm9 ht9 hw9
          generalize H1 = H at hP hS ⊢
          have aa_82 := a_r3_67
          have aa_83 := a_r4_67
          have aa_84 := a_r10_67
          have aa_85 := a_r11_67
          have aa_86 := a_r12_67
          have aa_87 := a_r13_1
          have aa_88 := a_r16_67
          have aa_89 := a_r17_67
          have aa_90 := a_r0_68
          have aa_91 := a_r5_68
          have aa_92 := a_r6_68
          have aa_93 := a_r7_68
          have aa_94 := a_r9_9
          have aa_95 := a_r10_9
          have aa_96 := a_r11_68
          have aa_97 := a_r12_68
          have aa_98 := a_r13_68
          have o_h0 := E_76.1 _ _ o_h0
          have hFc := gfree hD hS hA
          refine W_led (fun hL0 => ?_)
          obtain ⟨k_99, fs_99, hk_99⟩ := gC_of o_h0
          refine va_calli (va_runV (As := [.int 12, .int r_42, .int r_74]) (rest := []) ⟨hx, hb, hml, hown, hts⟩ (m_X11_pointersEntry l g H ws_75 h0 (12) (r_42) (r_74) ((wb)) (103) hG o_h0 xp_80 xp_81 (by have e103 : (103 : Int32).toInt = 103 := (by decide); have q_pwc := pwc; have q_pw3 := pw3; omega)) (cwV 3 hts (gd_V kw_153 kw_234 kw_235 kw_83 kw_233) rfl rfl rfl (by decide +kernel) ⟨Nat.le_of_ble_eq_true rfl, Nat.le_of_ble_eq_true rfl⟩) ⟨gblindH, va_recv hK hP (ci := 10) (q0 := k_99) rfl hk_99, fun U hU hW9 => gmkH hU hW9 hP hK hD hex hE hS hFc⟩ rfl rfl hl.1 rfl (lv_room (Nat.le_of_ble_eq_true rfl)) dX11_methodEntryOf_67 ⟨(show 0 + dc_46 + dc_78 + (PC ws_75 + (0)) ≤ PC ws + (0) from (by have e0 : (0 : Int32).toInt = 0 := (by decide); omega)), (show 0 + ds_47 + ds_79 + (PS ws_75 + (0)) ≤ PS ws + (0) from (by have e0 : (0 : Int32).toInt = 0 := (by decide); omega))⟩) hS (fun q _ h => hFc q h) hFc (fun r_100 ws_101 t9 H1 locs ht9 hvm9 hw9 hB9 hz9 hk9 hS => ?_)
          obtain ⟨E_102, Fr_103, hG, hP1, hD1, dc_104, ds_105, hLd, hdc_104, hds_105⟩ := hB9
          rw [ht9] at hLd
          refine W_tight (hL0.tr hLd).1 (hL0.tr hLd).2.1 ?_
          clear hL0 hLd
          have hP : va_P (gD g) cl0 ws_101 H1 := by rw [← ht9]; exact hP1
          have hD : va_D A ws_101 := hD1.weaken (fun _ _ _ h => hFc _ h)
          obtain ⟨hw9, xp_106, xp_107⟩ := hw9
          clear hP1 hD1 hz9 hk9 hvm9 ht9 hw9
          generalize H1 = H at hP hS ⊢
          have o_h0 := E_102.1 _ _ o_h0
          refine lv_istore_n (lv' := [(3, .int r_100), (2, .int r_42), (0, .ref h0), (1, .int x1)]) hx hb dX11_methodEntryOf_70 rfl hl (by decide) rfl (fun ls hl => ?_)
          refine lv_aload_n hx hb dX11_methodEntryOf_71 rfl (lv_at hl 2 rfl) ?_
          obtain ⟨fs9, hk_108, hq_108⟩ := ((gA.tr (gF.a (F' := [(0, 0), (0, 1), (10, 5), (10, 6)]) Fr_77 (fun _ h => h)) (gF.a (F' := [(0, 0), (0, 1), (10, 5), (10, 6)]) Fr_103 (fun _ h => h)))) _ _ _ hk_67
          obtain ⟨r0_108, r1_108, r2_108, r3_108, n3_108, r4_108, n4_108, c5_108, c6_108, v7_108, c8_108, c9_108, r10_108, n10_108, r11_108, n11_108, r12_108, n12_108, r13_108, n13_108, r14_108, v15_108, r16_108, n16_108, r17_108, n17_108, rfl, o_r0_108, o_r1_108, o_r2_108, a_r3_108, f4_108, a_r4_108, f6_108, hz_c6_108, o_v7_108, a_r10_108, f10_108, a_r11_108, f12_108, a_r12_108, f14_108, a_r13_108, f16_108, o_r14_108, o_v15_108, a_r16_108, f20_108, a_r17_108, f22_108, f23_108, f24_108, f25_108, f26_108, f27_108, f28_108, -⟩ := (hG.1 _ _ _ _ hk_108).hX11 rfl
          have hn9 := fe_qr (hq_108 7 (by decide))
          subst hn9
          have o_b_2 := o_v7_108 _ rfl
          obtain rfl := fe_i (hq_108 9 (by decide))
          obtain rfl := fe_r (hq_108 13 (by decide))
          have hn9 := gI_n hD (((E_76.tr E_102)).1 _ _ aa_87) a_r13_108
          subst hn9
          have a_r13_1 := a_r13_108
          obtain rfl := fe_q (hq_108 15 (by decide))
          have o_v15_1 := o_v15_108
          refine va_get (D := gD g) (ci := 10) (v := .ref r13_1) (C := RX11) (T := TX11) (N := 18) hx hb hts inX11 hown hK hP k_1 hk_108 rfl 13 (by decide) (hts _ kw_118) (fun _ h9 => h9) rfl dX11_methodEntryOf_72 ?_
          refine lv_iload_n hx hb dX11_methodEntryOf_75 rfl (lv_at hl 3 rfl) ?_
          refine lv_aload_n hx hb dX11_methodEntryOf_76 rfl (lv_at hl 2 rfl) ?_
          refine lv_bipush (v := 10) hx hb dX11_methodEntryOf_77 (by decide) ?_
          refine lv_aload_n hx hb dX11_methodEntryOf_79 rfl (lv_at hl 2 rfl) ?_
          refine va_get (D := gD g) (ci := 10) (v := .int c9_1) (C := RX11) (T := TX11) (N := 18) hx hb hts inX11 hown hK hP k_1 hk_108 rfl 9 (by decide) (hts _ kw_122) (fun _ h9 => h9) rfl dX11_methodEntryOf_80 ?_
          refine lv_iload_n hx hb dX11_methodEntryOf_83 rfl (lv_at hl 0 rfl) ?_
          have hFc := gfree hD hS hA
          have pg_109 := ge_10_17 hD hk_108 rfl a_r17_108
          refine W_led (fun hL0 => ?_)
          refine va_calli (va_runV (As := [.int 10, .int c9_1, .int r_100]) (rest := [.int x1, .ref r13_1]) ⟨hx, hb, hml, hown, hts⟩ (m_X11_pointersEntry l g H ws_101 h0 (10) (c9_1) (r_100) (((wb))) (5) hG o_h0 xp_106 xp_107 (by have e5 : (5 : Int32).toInt = 5 := (by decide); have q_pwc := pwc; have q_pw3 := pw3; omega)) (cwV 3 hts (gd_V kw_153 kw_234 kw_235 kw_83 kw_233) rfl rfl rfl (by decide +kernel) ⟨Nat.le_of_ble_eq_true rfl, Nat.le_of_ble_eq_true rfl⟩) ⟨gblindH, va_recv hK hP (ci := 10) (q0 := k_1) rfl hk_108, fun U hU hW9 => gmkH hU hW9 hP hK hD hex hE hS hFc⟩ rfl rfl hl.1 rfl (lv_room (Nat.le_of_ble_eq_true rfl)) dX11_methodEntryOf_84 ⟨(show 0 + dc_46 + dc_78 + dc_104 + (PC ws_101 + (0)) ≤ PC ws + (0) from (by have e0 : (0 : Int32).toInt = 0 := (by decide); omega)), (show 0 + ds_47 + ds_79 + ds_105 + (PS ws_101 + (0)) ≤ PS ws + (0) from (by have e0 : (0 : Int32).toInt = 0 := (by decide); omega))⟩) hS (fun q _ h => hFc q h) hFc (fun r_110 ws_111 t9 H1 locs ht9 hvm9 hw9 hB9 hz9 hk9 hS => ?_)
          obtain ⟨E_112, Fr_113, hG, hP1, hD1, dc_114, ds_115, hLd, hdc_114, hds_115⟩ := hB9
          rw [ht9] at hLd
          refine W_tight (hL0.tr hLd).1 (hL0.tr hLd).2.1 ?_
          clear hL0 hLd
          have hP : va_P (gD g) cl0 ws_111 H1 := by rw [← ht9]; exact hP1
          have hD : va_D A ws_111 := hD1.weaken (fun _ _ _ h => hFc _ h)
          obtain ⟨hw9, xp_116, xp_117⟩ := hw9
          clear hP1 hD1 hz9 hk9 hvm9 ht9 hw9
          generalize H1 = H at hP hS ⊢
          have aa_118 := a_r3_108
          have aa_119 := a_r4_108
          have aa_120 := a_r10_108
          have aa_121 := a_r11_108
          have aa_122 := a_r12_108
          have aa_123 := a_r13_1
          have aa_124 := a_r16_108
          have aa_125 := a_r17_108
          have o_h0 := E_112.1 _ _ o_h0
          have a_r13_1 := E_112.1 _ _ a_r13_1
          obtain ⟨k_126, f_126, hk_126⟩ := gI_of a_r13_1
          obtain ⟨fs9, hk_127, hq_127⟩ := ((gF.a (F' := [(0, 0), (0, 1), (10, 5), (10, 6)]) Fr_113 (fun _ h => h))) _ _ _ hk_108
          obtain ⟨r0_127, r1_127, r2_127, r3_127, n3_127, r4_127, n4_127, c5_127, c6_127, v7_127, c8_127, c9_127, r10_127, n10_127, r11_127, n11_127, r12_127, n12_127, r13_127, n13_127, r14_127, v15_127, r16_127, n16_127, r17_127, n17_127, rfl, o_r0_127, o_r1_127, o_r2_127, a_r3_127, f4_127, a_r4_127, f6_127, hz_c6_127, o_v7_127, a_r10_127, f10_127, a_r11_127, f12_127, a_r12_127, f14_127, a_r13_127, f16_127, o_r14_127, o_v15_127, a_r16_127, f20_127, a_r17_127, f22_127, f23_127, f24_127, f25_127, f26_127, f27_127, f28_127, -⟩ := (hG.1 _ _ _ _ hk_127).hX11 rfl
          have hn9 := fe_qr (hq_127 7 (by decide))
          subst hn9
          have o_b_2 := o_v7_127 _ rfl
          obtain rfl := fe_i (hq_127 9 (by decide))
          obtain rfl := fe_r (hq_127 13 (by decide))
          have hn9 := gI_n hD ((E_112).1 _ _ aa_123) a_r13_127
          subst hn9
          have a_r13_1 := a_r13_127
          obtain rfl := fe_q (hq_127 15 (by decide))
          have o_v15_1 := o_v15_127
          have hC9 : hol ws_111 r13_1 [(10, 13)] := (hol_u hG.u hk_127 (j := 13) rfl a_r13_1 (by decide))
          have hS9 : holS ws_111 r13_1 none := holS_n
          refine va_iast hx hb hK hP hD hS k_126 1 hk_126 rfl (i_in2 (by have e0 : (0 : Int32).toInt = 0 := (by decide); have q_f16_1 := f16_1; have q_f28_1 := f28_1; have q_c_3 := i_nlt c_3; have q_z_6 := i_len ez_6 f16_1; have q_c_7 := i_nle c_7; have q_c_12 := i_lt c_12; have q_z_11 := i_len ez_11 f9_9; have q_f9_9 := f9_9; have q_f22_9 := f22_9; have q_f23_9 := f23_9; have q_f24_9 := f24_9; have q_f25_9 := f25_9; have q_f26_9 := f26_9; have q_f27_9 := f27_9; have q_f22_68 := f22_68; have q_f24_68 := f24_68; have q_f25_68 := f25_68; have q_f26_68 := f26_68; have g_c8_68 := i_rg c8_68; have g_c8_9 := i_rg c8_9; have g_x1 := i_rg x1; have g_z_11 := i_rg z_11; have g_z_6 := i_rg z_6; omega)) dX11_methodEntryOf_87 (fun H locs hP hD hS => ?_)
          obtain ⟨ws_128, e_ws_128⟩ : ∃ z, z = ws_111.set k_126 (r13_1, .inl (g.cI, n13_1, .inl (upd f_126 (x1 : Int32).toNatClampNeg r_110))) := ⟨_, rfl⟩
          have hP : va_P (gD g) cl0 ws_128 H := by rw [e_ws_128]; exact hP
          have hD : va_D A ws_128 := by rw [e_ws_128]; exact hD
          have E_129 : gE ws_111 ws_128 := gE_ari e_ws_128 hk_126
          have hG : Good g ws_128 := Good_arI e_ws_128 hk_126 hG
          have Fr_130 : gF [] [(10, 13)] none ws_111 ws_128 := gF_ar e_ws_128 hk_126 rfl hC9 hS9
          have pp_131 := Fr_130.pp
          have hk_127 := gset_arO e_ws_128 hk_126 hk_127
          have o_h0 := E_129.1 _ _ o_h0
          have a_r13_1 := E_129.1 _ _ a_r13_1
          have o_r0_127 := E_129.1 _ _ o_r0_127
          have o_r1_127 := E_129.1 _ _ o_r1_127
          have o_r2_127 := E_129.1 _ _ o_r2_127
          have a_r3_127 := E_129.1 _ _ a_r3_127
          have a_r4_127 := E_129.1 _ _ a_r4_127
          have a_r10_127 := E_129.1 _ _ a_r10_127
          have a_r11_127 := E_129.1 _ _ a_r11_127
          have a_r12_127 := E_129.1 _ _ a_r12_127
          have o_r14_127 := E_129.1 _ _ o_r14_127
          have a_r16_127 := E_129.1 _ _ a_r16_127
          have a_r17_127 := E_129.1 _ _ a_r17_127
          have o_b_2 := E_129.1 _ _ o_b_2
          have o_v15_1 : ∀ b, v15_1 = some b → gC ws_128 b 7 := fun b h => E_129.1 _ _ (o_v15_1 b h)
          have tq_132 : enP g ws_128 h0 := enP_mo (Fr_130) (by decide) (by decide) (by decide) xp_116
          have tq_133 : wcP ws_128 h0 0 ((((wb)))) (5) := wcP_mo (Fr_130) (by decide) (by decide) (by decide) (by decide) (by decide) xp_117
          have tq_134 : wcP ws_128 h0 0 (wb) (103) := wcP_le (by have e0 : (0 : Int32).toInt = 0 := (by decide); have e09 : (0 : Int32).toInt = 0 := rfl; omega) (by have q_pwc := pwc; have q_pw3 := pw3; have e09 : (0 : Int32).toInt = 0 := rfl; omega) (by have e5 : (5 : Int32).toInt = 5 := (by decide); have e103 : (103 : Int32).toInt = 103 := (by decide); have e09 : (0 : Int32).toInt = 0 := rfl; omega) tq_133
          exact J_88 (0 + dc_46 + dc_78 + dc_104 + dc_114) (0 + ds_47 + ds_79 + ds_105 + ds_115) ws_128 H locs ls ((E_44.tr (E_76.tr (E_102.tr (E_112.tr E_129))))) ((gF.tr (gF.mo (F' := [(0, 0), (0, 1), (10, 5), (10, 6)]) (C' := [(0, 0), (6, 0), (10, 3), (10, 4), (10, 13)]) (S' := none) Fr_45 (fun _ h => h) (by decide) (Or.inr rfl)) (gF.tr (gF.mo (F' := [(0, 0), (0, 1), (10, 5), (10, 6)]) (C' := [(0, 0), (6, 0), (10, 3), (10, 4), (10, 13)]) (S' := none) Fr_77 (fun _ h => h) (by decide) (Or.inr rfl)) (gF.tr (gF.mo (F' := [(0, 0), (0, 1), (10, 5), (10, 6)]) (C' := [(0, 0), (6, 0), (10, 3), (10, 4), (10, 13)]) (S' := none) Fr_103 (fun _ h => h) (by decide) (Or.inr rfl)) (gF.tr (gF.mo (F' := [(0, 0), (0, 1), (10, 5), (10, 6)]) (C' := [(0, 0), (6, 0), (10, 3), (10, 4), (10, 13)]) (S' := none) Fr_113 (fun _ h => h) (by decide) (Or.inr rfl)) (gF.mo (F' := [(0, 0), (0, 1), (10, 5), (10, 6)]) (C' := [(0, 0), (6, 0), (10, 3), (10, 4), (10, 13)]) (S' := none) Fr_130 (fun _ h => absurd h List.not_mem_nil) (by decide) (Or.inr rfl))))))) hG (by omega) (by omega) tq_132 tq_134 hP hD hS (lv_sub hl [2, 3] rfl)
      · refine lv_iconst (v := 0) hx hb dX11_methodEntryOf_25 (by decide) ?_
        refine W_led (fun hLd => ?_)
        have hcl : 0 + PC ws ≤ PC ws + (0) := (by have e0 : (0 : Int32).toInt = 0 := (by decide); omega)
        have hsl : 0 + PS ws ≤ PS ws + (0) := (by have e0 : (0 : Int32).toInt = 0 := (by decide); omega)
        refine W.widen (k := PC ws + (0)) (n := PS ws + (0)) (by omega) (by omega) ?_
        have tq_135 : wcP ws h0 0 (wb) (103) := wcP_le (by have e0 : (0 : Int32).toInt = 0 := (by decide); have e09 : (0 : Int32).toInt = 0 := rfl; omega) (by have q_pwc := pwc; have q_pw3 := pw3; have e09 : (0 : Int32).toInt = 0 := rfl; omega) (by have e103 : (103 : Int32).toInt = 103 := (by decide); have q_pw3 := pw3; have q_pwc := pwc; have e09 : (0 : Int32).toInt = 0 := rfl; omega) tk3
        exact W.iret (v := 0) hx hb hr (fun t9 ht9 hW9 => ⟨⟨_, ws, rfl, ⟨trivial, tk0, tq_135⟩, ⟨gE.rf, gF.rf, hG, by rw [ht9]; exact hP, hD, _, _, by rw [ht9]; exact hLd, hcl, hsl⟩⟩, hS.F ht9⟩) hS.2.2 dX11_methodEntryOf_26
set_option maxHeartbeats 1000000 in
set_option maxRecDepth 100000 in
theorem m_X11_needOf_x (l : Launch) (g : Gm) (H0 : Heap) (ws : va_W) (h0 : Nat) (x1 : Int32) (wb : Int) (wc : Int) (hG : Good g ws) (o_h0 : gC ws h0 10) (nn_h0_7 : gN ws h0 7) (nn_h0_15 : gN ws h0 15) (tk0 : enP g ws h0) (tk1 : nlA9 ws h0) (tk2 : nlA10 ws h0) (tk3 : wcP ws h0 0 wb wc) (pw3 : wc ≤ 103) (pwc : 0 ≤ wb ∧ 0 ≤ wc ∧ (wb) ≤ 131072 ∧ (103) ≤ 131072) : Met l yX11_needOf (wt yX11_needOf cX11_needOf 4 (some .int)) ({ frames := 6, cells := PC ws + (0), slots := PS ws + (0), locals := 152 }) (va_Pc [.ref h0, .int x1] (st_H g H0 ws)) (va_Qi (fun (r : Int32) (u9 : va_W) => (True) ∧ (enP g u9 h0) ∧ (wcP u9 h0 0 (wb) (103))) (gQ2 g [(0, 0), (0, 1), (10, 5), (10, 6)] [(0, 0), (6, 0), (10, 3), (10, 4), (10, 12), (10, 13)] none (va_A ws H0.size) ws H0 (0) (0)) (va_A ws H0.size)) (PC ws + (0)) (PS ws + (0)) (va_A ws H0.size) := by
  refine Met.ofW (cc := cX11_needOf) (maxL := 4) (ret := (some .int)) (by decide) rfl ?_
  intro p e s m args below meth c s₁ B hml hv
  obtain ⟨rfl, hH0, hsz, hP, hK, hD0, hex, hE⟩ := hv
  have hx := B.exec
  have hb := B.bytes
  have hr := B.returns
  have hts0 := atoms_spec (ws := wt yX11_needOf cX11_needOf 4 (some .int)) B.pre
  have hts : ∀ w ∈ tb, w.before _ s = true := fun w h => hts0 w (List.mem_cons_of_mem _ h)
  have hown : s.vm.findClass RX11 = some m.cls := findClass_of_methodNamed B.named
  subst hH0
  have hD := hD0.self (sz := s.heap.size)
  generalize hAe : va_A ws s.heap.size = A at hD hE ⊢
  have hA : ∀ q : Nat, s.heap.size ≤ q → A q := fun q h => by rw [← hAe]; exact Or.inr h
  have hS : va_S A s.heap s.heap [] := va_S.rf
  have hl := lv_entry ([.ref h0, .int x1]) (n := 4) (Nat.le_of_ble_eq_true rfl)
  rw [lg_entry_eq]
  generalize (lg_sl ([.ref h0, .int x1]) ++ List.replicate (4 - (lg_sl ([.ref h0, .int x1])).length) Slot.unset).toArray = ls at hl ⊢
  have hl : lv_has ls 4 [(0, .ref h0), (1, .int x1)] := hl
  obtain ⟨k_1, fs9, hk_1⟩ := gC_of o_h0
  obtain ⟨r0_1, r1_1, r2_1, r3_1, n3_1, r4_1, n4_1, c5_1, c6_1, v7_1, c8_1, c9_1, r10_1, n10_1, r11_1, n11_1, r12_1, n12_1, r13_1, n13_1, r14_1, v15_1, r16_1, n16_1, r17_1, n17_1, rfl, o_r0_1, o_r1_1, o_r2_1, a_r3_1, f4_1, a_r4_1, f6_1, hz_c6_1, o_v7_1, a_r10_1, f10_1, a_r11_1, f12_1, a_r12_1, f14_1, a_r13_1, f16_1, o_r14_1, o_v15_1, a_r16_1, f20_1, a_r17_1, f22_1, f23_1, f24_1, f25_1, f26_1, f27_1, f28_1, -⟩ := (hG.1 _ _ _ _ hk_1).hX11 rfl
  obtain ⟨b_2, hn9⟩ := nn_h0_7 _ _ _ hk_1
  have hn9 := fe_qr hn9
  subst hn9
  have o_b_2 := o_v7_1 _ rfl
  obtain ⟨b_3, hn9⟩ := nn_h0_15 _ _ _ hk_1
  have hn9 := fe_qr hn9
  subst hn9
  have o_b_3 := o_v15_1 _ rfl
  refine lv_aload_n hx hb dX11_needOf_0 rfl (lv_at hl 0 rfl) ?_
  refine va_get (D := gD g) (ci := 10) (v := .ref b_3) (C := RX11) (T := TX11) (N := 18) hx hb hts inX11 hown hK hP k_1 hk_1 rfl 15 (by decide) (hts _ kw_84) (fun _ h9 => h9) rfl dX11_needOf_1 ?_
  refine lv_iload_n hx hb dX11_needOf_4 rfl (lv_at hl 1 rfl) ?_
  have hFc := gfree hD hS hA
  obtain ⟨k_4, fs_4, hk_4⟩ := gC_of o_b_3
  refine va_calll (va_runV (As := [.int x1]) (rest := []) ⟨hx, hb, hml, hown, hts⟩ (m_X8_argAt_x l g s.heap.size ws b_3 (x1) hG o_b_3) (cwV 1 hts (gd_V kw_197 kw_1476 kw_1477 kw_782 kw_1475) rfl rfl rfl (by decide +kernel) ⟨Nat.le_of_ble_eq_true rfl, Nat.le_of_ble_eq_true rfl⟩) ⟨gblind, va_recv hK hP (ci := 7) (q0 := k_4) rfl hk_4, fun U hU hW9 => gmk hU hW9 hP hK hD hex hE hS hFc⟩ rfl rfl hl.1 rfl (lv_room (Nat.le_of_ble_eq_true rfl)) dX11_needOf_5 ⟨(show 0 + 0 ≤ PC ws + (0) from (by have e0 : (0 : Int32).toInt = 0 := (by decide); omega)), (show 0 + 0 ≤ PS ws + (0) from (by have e0 : (0 : Int32).toInt = 0 := (by decide); omega))⟩) hS (fun q _ h => hFc q h) hFc (fun r_5 u9 t9 H1 locs ht9 hvm9 hw9 hB9 hz9 hk9 hS => ?_)
  have hP : va_P (gD g) cl0 ws H1 := by rw [← ht9]; exact hB9.1
  obtain ⟨hw9, xp_6⟩ := hw9
  clear hB9 hz9 hk9 hvm9 ht9 hw9
  generalize H1 = H at hP hS ⊢
  refine lv_lstore_n (lv' := [(2, .long r_5), (0, .ref h0), (1, .int x1)]) hx hb dX11_needOf_8 rfl hl (by decide) rfl (fun ls hl => ?_)
  refine lv_aload_n hx hb dX11_needOf_9 rfl (lv_at hl 1 rfl) ?_
  refine va_get (D := gD g) (ci := 10) (v := .ref b_3) (C := RX11) (T := TX11) (N := 18) hx hb hts inX11 hown hK hP k_1 hk_1 rfl 15 (by decide) (hts _ kw_84) (fun _ h9 => h9) rfl dX11_needOf_10 ?_
  refine lv_iload_n hx hb dX11_needOf_13 rfl (lv_at hl 2 rfl) ?_
  have hFc := gfree hD hS hA
  obtain ⟨k_7, fs_7, hk_7⟩ := gC_of o_b_3
  refine va_calli (va_runV (As := [.int x1]) (rest := []) ⟨hx, hb, hml, hown, hts⟩ (m_X8_opAt_x l g H.size ws b_3 (x1) hG o_b_3) (cwV 1 hts (gd_V kw_189 kw_1513 kw_1514 kw_782 kw_1512) rfl rfl rfl (by decide +kernel) ⟨Nat.le_of_ble_eq_true rfl, Nat.le_of_ble_eq_true rfl⟩) ⟨gblind, va_recv hK hP (ci := 7) (q0 := k_7) rfl hk_7, fun U hU hW9 => gmk hU hW9 hP hK hD hex hE hS hFc⟩ rfl rfl hl.1 rfl (lv_room (Nat.le_of_ble_eq_true rfl)) dX11_needOf_14 ⟨(show 0 + 0 ≤ PC ws + (0) from (by have e0 : (0 : Int32).toInt = 0 := (by decide); omega)), (show 0 + 0 ≤ PS ws + (0) from (by have e0 : (0 : Int32).toInt = 0 := (by decide); omega))⟩) hS (fun q _ h => hFc q h) hFc (fun r_8 u9 t9 H1 locs ht9 hvm9 hw9 hB9 hz9 hk9 hS => ?_)
  have hP : va_P (gD g) cl0 ws H1 := by rw [← ht9]; exact hB9.1
  obtain ⟨hw9, xp_9⟩ := hw9
  clear hB9 hz9 hk9 hvm9 ht9 hw9
  generalize H1 = H at hP hS ⊢
  have K_17_124 : W p l e (headSpec (wt yX11_needOf cX11_needOf 4 (some .int)) ({ frames := 6, cells := PC ws + (0), slots := PS ws + (0), locals := 152 })).room s m ([.ref h0, .int x1] : List Value).toArray below meth c H locs (0) (0) (MQ below (va_Qi (fun (r : Int32) (u9 : va_W) => (True) ∧ (enP g u9 h0) ∧ (wcP u9 h0 0 (wb) (103))) (gQ2 g [(0, 0), (0, 1), (10, 5), (10, 6)] [(0, 0), (6, 0), (10, 3), (10, 4), (10, 12), (10, 13)] none A ws s.heap (0) (0)) A) ([.ref h0, .int x1] : List Value).toArray s (PC ws + (0)) (PS ws + (0)) A) (F0 m 124 ls []) := by
    refine lv_iconst (v := 0) hx hb dX11_needOf_124 (by decide) ?_
    refine W_led (fun hLd => ?_)
    have hcl : 0 + PC ws ≤ PC ws + (0) := (by have e0 : (0 : Int32).toInt = 0 := (by decide); omega)
    have hsl : 0 + PS ws ≤ PS ws + (0) := (by have e0 : (0 : Int32).toInt = 0 := (by decide); omega)
    refine W.widen (k := PC ws + (0)) (n := PS ws + (0)) (by omega) (by omega) ?_
    have tq_10 : wcP ws h0 0 (wb) (103) := wcP_le (by have e0 : (0 : Int32).toInt = 0 := (by decide); have e09 : (0 : Int32).toInt = 0 := rfl; omega) (by have q_pwc := pwc; have q_pw3 := pw3; have e09 : (0 : Int32).toInt = 0 := rfl; omega) (by have e103 : (103 : Int32).toInt = 103 := (by decide); have q_pw3 := pw3; have q_pwc := pwc; have e09 : (0 : Int32).toInt = 0 := rfl; omega) tk3
    exact W.iret (v := 0) hx hb hr (fun t9 ht9 hW9 => ⟨⟨_, ws, rfl, ⟨trivial, tk0, tq_10⟩, ⟨gE.rf, gF.rf, hG, by rw [ht9]; exact hP, hD, _, _, by rw [ht9]; exact hLd, hcl, hsl⟩⟩, hS.F ht9⟩) hS.2.2 dX11_needOf_125
  have K_17_68 : W p l e (headSpec (wt yX11_needOf cX11_needOf 4 (some .int)) ({ frames := 6, cells := PC ws + (0), slots := PS ws + (0), locals := 152 })).room s m ([.ref h0, .int x1] : List Value).toArray below meth c H locs (0) (0) (MQ below (va_Qi (fun (r : Int32) (u9 : va_W) => (True) ∧ (enP g u9 h0) ∧ (wcP u9 h0 0 (wb) (103))) (gQ2 g [(0, 0), (0, 1), (10, 5), (10, 6)] [(0, 0), (6, 0), (10, 3), (10, 4), (10, 12), (10, 13)] none A ws s.heap (0) (0)) A) ([.ref h0, .int x1] : List Value).toArray s (PC ws + (0)) (PS ws + (0)) A) (F0 m 68 ls []) := by
    refine lv_lload_n hx hb dX11_needOf_68 rfl (lv_at hl 0 rfl) ?_
    refine lv_lload_n hx hb dX11_needOf_69 rfl (lv_at hl 0 rfl) ?_
    obtain ⟨z_11, ez_11⟩ : ∃ y : Int32, (r_5 : Int64).toInt32 = y := ⟨_, rfl⟩
    refine lv_l2i (v := z_11) hx hb dX11_needOf_70 ez_11 ?_
    obtain ⟨z_12, ez_12⟩ : ∃ y : Int32, (z_11 : Int32).toInt16.toInt32 = y := ⟨_, rfl⟩
    refine lv_i2s (v := z_12) hx hb dX11_needOf_71 ez_12 ?_
    obtain ⟨z_13, ez_13⟩ : ∃ y : Int64, (z_12 : Int32).toInt64 = y := ⟨_, rfl⟩
    refine lv_i2l (v := z_13) hx hb dX11_needOf_72 ez_13 ?_
    refine W.lcmp hx hb dX11_needOf_73 ?_
    refine lv_topi (fun z_14 ez_14 => ?_)
    refine lv_if_ne (tgt := 81) hx hb dX11_needOf_74 (by decide) (fun c_15 => ?_) (fun c_15 => ?_)
    · refine lv_aload_n hx hb dX11_needOf_81 rfl (lv_at hl 1 rfl) ?_
      refine lv_lload_n hx hb dX11_needOf_82 rfl (lv_at hl 0 rfl) ?_
      obtain ⟨z_16, ez_16⟩ : ∃ y : Int32, (r_5 : Int64).toInt32 = y := ⟨_, rfl⟩
      refine lv_l2i (v := z_16) hx hb dX11_needOf_83 ez_16 ?_
      have hFc := gfree hD hS hA
      have pg_17 := ge_10_17 hD hk_1 rfl a_r17_1
      refine W_led (fun hL0 => ?_)
      refine va_calli (va_runV (As := [.int z_16]) (rest := []) ⟨hx, hb, hml, hown, hts⟩ (m_X11_intEntry l g H ws h0 (z_16) wb wc hG o_h0 tk0 tk3 (by have q_pw3 := pw3; have q_pwc := pwc; omega)) (cwV 1 hts (gd_V kw_223 kw_171 kw_172 kw_83 kw_170) rfl rfl rfl (by decide +kernel) ⟨Nat.le_of_ble_eq_true rfl, Nat.le_of_ble_eq_true rfl⟩) ⟨gblindH, va_recv hK hP (ci := 10) (q0 := k_1) rfl hk_1, fun U hU hW9 => gmkH hU hW9 hP hK hD hex hE hS hFc⟩ rfl rfl hl.1 rfl (lv_room (Nat.le_of_ble_eq_true rfl)) dX11_needOf_84 ⟨(show 0 + (PC ws + (0)) ≤ PC ws + (0) from (by have e0 : (0 : Int32).toInt = 0 := (by decide); omega)), (show 0 + (PS ws + (0)) ≤ PS ws + (0) from (by have e0 : (0 : Int32).toInt = 0 := (by decide); omega))⟩) hS (fun q _ h => hFc q h) hFc (fun r_18 ws_19 t9 H1 locs ht9 hvm9 hw9 hB9 hz9 hk9 hS => ?_)
      obtain ⟨E_20, Fr_21, hG, hP1, hD1, dc_22, ds_23, hLd, hdc_22, hds_23⟩ := hB9
      rw [ht9] at hLd
      refine W_tight (hL0.tr hLd).1 (hL0.tr hLd).2.1 ?_
      clear hL0 hLd
      have hP : va_P (gD g) cl0 ws_19 H1 := by rw [← ht9]; exact hP1
      have hD : va_D A ws_19 := hD1.weaken (fun _ _ _ h => hFc _ h)
      obtain ⟨hw9, xp_24, xp_25⟩ := hw9
      clear hP1 hD1 hz9 hk9 hvm9 ht9 hw9
      generalize H1 = H at hP hS ⊢
      have aa_26 := a_r3_1
      have aa_27 := a_r4_1
      have aa_28 := a_r10_1
      have aa_29 := a_r11_1
      have aa_30 := a_r12_1
      have aa_31 := a_r13_1
      have aa_32 := a_r16_1
      have aa_33 := a_r17_1
      have o_h0 := E_20.1 _ _ o_h0
      refine W_led (fun hLd => ?_)
      have hcl : 0 + dc_22 + PC ws_19 ≤ PC ws + (0) := (by omega)
      have hsl : 0 + ds_23 + PS ws_19 ≤ PS ws + (0) := (by omega)
      refine W.widen (k := PC ws + (0)) (n := PS ws + (0)) (by omega) (by omega) ?_
      have tq_34 : wcP ws_19 h0 0 (wb) (103) := wcP_le (by have e0 : (0 : Int32).toInt = 0 := (by decide); have e09 : (0 : Int32).toInt = 0 := rfl; omega) (by have q_pwc := pwc; have q_pw3 := pw3; have e09 : (0 : Int32).toInt = 0 := rfl; omega) (by have e5 : (5 : Int32).toInt = 5 := (by decide); have e103 : (103 : Int32).toInt = 103 := (by decide); have e09 : (0 : Int32).toInt = 0 := rfl; omega) xp_25
      exact W.iret (v := r_18) hx hb hr (fun t9 ht9 hW9 => ⟨⟨_, ws_19, rfl, ⟨trivial, xp_24, tq_34⟩, ⟨E_20, (gF.mo (F' := [(0, 0), (0, 1), (10, 5), (10, 6)]) (C' := [(0, 0), (6, 0), (10, 3), (10, 4), (10, 12), (10, 13)]) (S' := none) Fr_21 (fun _ h => h) (by decide) (Or.inr rfl)), hG, by rw [ht9]; exact hP, hD, _, _, by rw [ht9]; exact hLd, hcl, hsl⟩⟩, hS.F ht9⟩) hS.2.2 dX11_needOf_87
    · refine lv_iconst (v := 0) hx hb dX11_needOf_77 (by decide) ?_
      refine lv_goto (tgt := 87) hx hb dX11_needOf_78 (by decide) ?_
      refine W_led (fun hLd => ?_)
      have hcl : 0 + PC ws ≤ PC ws + (0) := (by have e0 : (0 : Int32).toInt = 0 := (by decide); omega)
      have hsl : 0 + PS ws ≤ PS ws + (0) := (by have e0 : (0 : Int32).toInt = 0 := (by decide); omega)
      refine W.widen (k := PC ws + (0)) (n := PS ws + (0)) (by omega) (by omega) ?_
      have tq_35 : wcP ws h0 0 (wb) (103) := wcP_le (by have e0 : (0 : Int32).toInt = 0 := (by decide); have e09 : (0 : Int32).toInt = 0 := rfl; omega) (by have q_pwc := pwc; have q_pw3 := pw3; have e09 : (0 : Int32).toInt = 0 := rfl; omega) (by have e103 : (103 : Int32).toInt = 103 := (by decide); have q_pw3 := pw3; have q_pwc := pwc; have e09 : (0 : Int32).toInt = 0 := rfl; omega) tk3
      exact W.iret (v := 0) hx hb hr (fun t9 ht9 hW9 => ⟨⟨_, ws, rfl, ⟨trivial, tk0, tq_35⟩, ⟨gE.rf, gF.rf, hG, by rw [ht9]; exact hP, hD, _, _, by rw [ht9]; exact hLd, hcl, hsl⟩⟩, hS.F ht9⟩) hS.2.2 dX11_needOf_87
  have K_17_88 : W p l e (headSpec (wt yX11_needOf cX11_needOf 4 (some .int)) ({ frames := 6, cells := PC ws + (0), slots := PS ws + (0), locals := 152 })).room s m ([.ref h0, .int x1] : List Value).toArray below meth c H locs (0) (0) (MQ below (va_Qi (fun (r : Int32) (u9 : va_W) => (True) ∧ (enP g u9 h0) ∧ (wcP u9 h0 0 (wb) (103))) (gQ2 g [(0, 0), (0, 1), (10, 5), (10, 6)] [(0, 0), (6, 0), (10, 3), (10, 4), (10, 12), (10, 13)] none A ws s.heap (0) (0)) A) ([.ref h0, .int x1] : List Value).toArray s (PC ws + (0)) (PS ws + (0)) A) (F0 m 88 ls []) := by
    refine lv_lload_n hx hb dX11_needOf_88 rfl (lv_at hl 0 rfl) ?_
    refine lv_lconst (v := 0) hx hb dX11_needOf_89 (by decide) ?_
    refine W.lcmp hx hb dX11_needOf_90 ?_
    refine lv_topi (fun z_36 ez_36 => ?_)
    refine lv_if_eq (tgt := 100) hx hb dX11_needOf_91 (by decide) (fun c_37 => ?_) (fun c_37 => ?_)
    · refine lv_iconst (v := 0) hx hb dX11_needOf_100 (by decide) ?_
      refine lv_goto (tgt := 109) hx hb dX11_needOf_101 (by decide) ?_
      refine W_led (fun hLd => ?_)
      have hcl : 0 + PC ws ≤ PC ws + (0) := (by have e0 : (0 : Int32).toInt = 0 := (by decide); omega)
      have hsl : 0 + PS ws ≤ PS ws + (0) := (by have e0 : (0 : Int32).toInt = 0 := (by decide); omega)
      refine W.widen (k := PC ws + (0)) (n := PS ws + (0)) (by omega) (by omega) ?_
      have tq_38 : wcP ws h0 0 (wb) (103) := wcP_le (by have e0 : (0 : Int32).toInt = 0 := (by decide); have e09 : (0 : Int32).toInt = 0 := rfl; omega) (by have q_pwc := pwc; have q_pw3 := pw3; have e09 : (0 : Int32).toInt = 0 := rfl; omega) (by have e103 : (103 : Int32).toInt = 103 := (by decide); have q_pw3 := pw3; have q_pwc := pwc; have e09 : (0 : Int32).toInt = 0 := rfl; omega) tk3
      exact W.iret (v := 0) hx hb hr (fun t9 ht9 hW9 => ⟨⟨_, ws, rfl, ⟨trivial, tk0, tq_38⟩, ⟨gE.rf, gF.rf, hG, by rw [ht9]; exact hP, hD, _, _, by rw [ht9]; exact hLd, hcl, hsl⟩⟩, hS.F ht9⟩) hS.2.2 dX11_needOf_109
    · refine lv_lload_n hx hb dX11_needOf_94 rfl (lv_at hl 0 rfl) ?_
      refine lv_lconst (v := 1) hx hb dX11_needOf_95 (by decide) ?_
      refine W.lcmp hx hb dX11_needOf_96 ?_
      refine lv_topi (fun z_39 ez_39 => ?_)
      refine lv_if_ne (tgt := 104) hx hb dX11_needOf_97 (by decide) (fun c_40 => ?_) (fun c_40 => ?_)
      · refine lv_aload_n hx hb dX11_needOf_104 rfl (lv_at hl 1 rfl) ?_
        refine lv_lload_n hx hb dX11_needOf_105 rfl (lv_at hl 0 rfl) ?_
        have hFc := gfree hD hS hA
        refine W_led (fun hL0 => ?_)
        refine va_calli (va_runV (As := [.long r_5]) (rest := []) ⟨hx, hb, hml, hown, hts⟩ (m_X11_longEntry l g H ws h0 (r_5) wb wc hG o_h0 tk0 tk3 (by have q_pw3 := pw3; have q_pwc := pwc; omega)) (cwV 1 hts (gd_V kw_224 kw_211 kw_212 kw_83 kw_210) rfl rfl rfl (by decide +kernel) ⟨Nat.le_of_ble_eq_true rfl, Nat.le_of_ble_eq_true rfl⟩) ⟨gblindH, va_recv hK hP (ci := 10) (q0 := k_1) rfl hk_1, fun U hU hW9 => gmkH hU hW9 hP hK hD hex hE hS hFc⟩ rfl rfl hl.1 rfl (lv_room (Nat.le_of_ble_eq_true rfl)) dX11_needOf_106 ⟨(show 0 + (PC ws + (0)) ≤ PC ws + (0) from (by have e0 : (0 : Int32).toInt = 0 := (by decide); omega)), (show 0 + (PS ws + (0)) ≤ PS ws + (0) from (by have e0 : (0 : Int32).toInt = 0 := (by decide); omega))⟩) hS (fun q _ h => hFc q h) hFc (fun r_41 ws_42 t9 H1 locs ht9 hvm9 hw9 hB9 hz9 hk9 hS => ?_)
        obtain ⟨E_43, Fr_44, hG, hP1, hD1, dc_45, ds_46, hLd, hdc_45, hds_46⟩ := hB9
        rw [ht9] at hLd
        refine W_tight (hL0.tr hLd).1 (hL0.tr hLd).2.1 ?_
        clear hL0 hLd
        have hP : va_P (gD g) cl0 ws_42 H1 := by rw [← ht9]; exact hP1
        have hD : va_D A ws_42 := hD1.weaken (fun _ _ _ h => hFc _ h)
        obtain ⟨hw9, xp_47, xp_48⟩ := hw9
        clear hP1 hD1 hz9 hk9 hvm9 ht9 hw9
        generalize H1 = H at hP hS ⊢
        have aa_49 := a_r3_1
        have aa_50 := a_r4_1
        have aa_51 := a_r10_1
        have aa_52 := a_r11_1
        have aa_53 := a_r12_1
        have aa_54 := a_r13_1
        have aa_55 := a_r16_1
        have aa_56 := a_r17_1
        have o_h0 := E_43.1 _ _ o_h0
        refine W_led (fun hLd => ?_)
        have hcl : 0 + dc_45 + PC ws_42 ≤ PC ws + (0) := (by omega)
        have hsl : 0 + ds_46 + PS ws_42 ≤ PS ws + (0) := (by omega)
        refine W.widen (k := PC ws + (0)) (n := PS ws + (0)) (by omega) (by omega) ?_
        have tq_57 : wcP ws_42 h0 0 (wb) (103) := wcP_le (by have e0 : (0 : Int32).toInt = 0 := (by decide); have e09 : (0 : Int32).toInt = 0 := rfl; omega) (by have q_pwc := pwc; have q_pw3 := pw3; have e09 : (0 : Int32).toInt = 0 := rfl; omega) (by have e9 : (9 : Int32).toInt = 9 := (by decide); have e103 : (103 : Int32).toInt = 103 := (by decide); have e09 : (0 : Int32).toInt = 0 := rfl; omega) xp_48
        exact W.iret (v := r_41) hx hb hr (fun t9 ht9 hW9 => ⟨⟨_, ws_42, rfl, ⟨trivial, xp_47, tq_57⟩, ⟨E_43, (gF.mo (F' := [(0, 0), (0, 1), (10, 5), (10, 6)]) (C' := [(0, 0), (6, 0), (10, 3), (10, 4), (10, 12), (10, 13)]) (S' := none) Fr_44 (fun _ h => h) (by decide) (Or.inr rfl)), hG, by rw [ht9]; exact hP, hD, _, _, by rw [ht9]; exact hLd, hcl, hsl⟩⟩, hS.F ht9⟩) hS.2.2 dX11_needOf_109
      · refine lv_iconst (v := 0) hx hb dX11_needOf_100 (by decide) ?_
        refine lv_goto (tgt := 109) hx hb dX11_needOf_101 (by decide) ?_
        refine W_led (fun hLd => ?_)
        have hcl : 0 + PC ws ≤ PC ws + (0) := (by have e0 : (0 : Int32).toInt = 0 := (by decide); omega)
        have hsl : 0 + PS ws ≤ PS ws + (0) := (by have e0 : (0 : Int32).toInt = 0 := (by decide); omega)
        refine W.widen (k := PC ws + (0)) (n := PS ws + (0)) (by omega) (by omega) ?_
        have tq_58 : wcP ws h0 0 (wb) (103) := wcP_le (by have e0 : (0 : Int32).toInt = 0 := (by decide); have e09 : (0 : Int32).toInt = 0 := rfl; omega) (by have q_pwc := pwc; have q_pw3 := pw3; have e09 : (0 : Int32).toInt = 0 := rfl; omega) (by have e103 : (103 : Int32).toInt = 103 := (by decide); have q_pw3 := pw3; have q_pwc := pwc; have e09 : (0 : Int32).toInt = 0 := rfl; omega) tk3
        exact W.iret (v := 0) hx hb hr (fun t9 ht9 hW9 => ⟨⟨_, ws, rfl, ⟨trivial, tk0, tq_58⟩, ⟨gE.rf, gF.rf, hG, by rw [ht9]; exact hP, hD, _, _, by rw [ht9]; exact hLd, hcl, hsl⟩⟩, hS.F ht9⟩) hS.2.2 dX11_needOf_109
  have K_17_110 : W p l e (headSpec (wt yX11_needOf cX11_needOf 4 (some .int)) ({ frames := 6, cells := PC ws + (0), slots := PS ws + (0), locals := 152 })).room s m ([.ref h0, .int x1] : List Value).toArray below meth c H locs (0) (0) (MQ below (va_Qi (fun (r : Int32) (u9 : va_W) => (True) ∧ (enP g u9 h0) ∧ (wcP u9 h0 0 (wb) (103))) (gQ2 g [(0, 0), (0, 1), (10, 5), (10, 6)] [(0, 0), (6, 0), (10, 3), (10, 4), (10, 12), (10, 13)] none A ws s.heap (0) (0)) A) ([.ref h0, .int x1] : List Value).toArray s (PC ws + (0)) (PS ws + (0)) A) (F0 m 110 ls []) := by
    refine lv_aload_n hx hb dX11_needOf_110 rfl (lv_at hl 1 rfl) ?_
    refine lv_lload_n hx hb dX11_needOf_111 rfl (lv_at hl 0 rfl) ?_
    obtain ⟨z_59, ez_59⟩ : ∃ y : Int32, (r_5 : Int64).toInt32 = y := ⟨_, rfl⟩
    refine lv_l2i (v := z_59) hx hb dX11_needOf_112 ez_59 ?_
    have hFc := gfree hD hS hA
    refine W_led (fun hL0 => ?_)
    refine va_calli (va_runV (As := [.int z_59]) (rest := []) ⟨hx, hb, hml, hown, hts⟩ (m_X11_fieldEntryOf_x l g H ws h0 (z_59) wb wc hG o_h0 tk0 tk3 (by have q_pw3 := pw3; have q_pwc := pwc; omega) (by have q_pw3 := pw3; have q_pwc := pwc; omega)) (cwV 1 hts (gd_V kw_225 kw_151 kw_152 kw_83 kw_150) rfl rfl rfl (by decide +kernel) ⟨Nat.le_of_ble_eq_true rfl, Nat.le_of_ble_eq_true rfl⟩) ⟨gblindH, va_recv hK hP (ci := 10) (q0 := k_1) rfl hk_1, fun U hU hW9 => gmkH hU hW9 hP hK hD hex hE hS hFc⟩ rfl rfl hl.1 rfl (lv_room (Nat.le_of_ble_eq_true rfl)) dX11_needOf_113 ⟨(show 0 + (PC ws + (0)) ≤ PC ws + (0) from (by have e0 : (0 : Int32).toInt = 0 := (by decide); omega)), (show 0 + (PS ws + (0)) ≤ PS ws + (0) from (by have e0 : (0 : Int32).toInt = 0 := (by decide); omega))⟩) hS (fun q _ h => hFc q h) hFc (fun r_60 ws_61 t9 H1 locs ht9 hvm9 hw9 hB9 hz9 hk9 hS => ?_)
    obtain ⟨E_62, Fr_63, hG, hP1, hD1, dc_64, ds_65, hLd, hdc_64, hds_65⟩ := hB9
    rw [ht9] at hLd
    refine W_tight (hL0.tr hLd).1 (hL0.tr hLd).2.1 ?_
    clear hL0 hLd
    have hP : va_P (gD g) cl0 ws_61 H1 := by rw [← ht9]; exact hP1
    have hD : va_D A ws_61 := hD1.weaken (fun _ _ _ h => hFc _ h)
    obtain ⟨hw9, xp_66, xp_67⟩ := hw9
    clear hP1 hD1 hz9 hk9 hvm9 ht9 hw9
    generalize H1 = H at hP hS ⊢
    have aa_68 := a_r3_1
    have aa_69 := a_r4_1
    have aa_70 := a_r10_1
    have aa_71 := a_r11_1
    have aa_72 := a_r12_1
    have aa_73 := a_r13_1
    have aa_74 := a_r16_1
    have aa_75 := a_r17_1
    have o_h0 := E_62.1 _ _ o_h0
    refine W_led (fun hLd => ?_)
    have hcl : 0 + dc_64 + PC ws_61 ≤ PC ws + (0) := (by omega)
    have hsl : 0 + ds_65 + PS ws_61 ≤ PS ws + (0) := (by omega)
    refine W.widen (k := PC ws + (0)) (n := PS ws + (0)) (by omega) (by omega) ?_
    exact W.iret (v := r_60) hx hb hr (fun t9 ht9 hW9 => ⟨⟨_, ws_61, rfl, ⟨trivial, xp_66, xp_67⟩, ⟨E_62, (gF.mo (F' := [(0, 0), (0, 1), (10, 5), (10, 6)]) (C' := [(0, 0), (6, 0), (10, 3), (10, 4), (10, 12), (10, 13)]) (S' := none) Fr_63 (fun _ h => h) (by decide) (Or.inr rfl)), hG, by rw [ht9]; exact hP, hD, _, _, by rw [ht9]; exact hLd, hcl, hsl⟩⟩, hS.F ht9⟩) hS.2.2 dX11_needOf_116
  have K_17_117 : W p l e (headSpec (wt yX11_needOf cX11_needOf 4 (some .int)) ({ frames := 6, cells := PC ws + (0), slots := PS ws + (0), locals := 152 })).room s m ([.ref h0, .int x1] : List Value).toArray below meth c H locs (0) (0) (MQ below (va_Qi (fun (r : Int32) (u9 : va_W) => (True) ∧ (enP g u9 h0) ∧ (wcP u9 h0 0 (wb) (103))) (gQ2 g [(0, 0), (0, 1), (10, 5), (10, 6)] [(0, 0), (6, 0), (10, 3), (10, 4), (10, 12), (10, 13)] none A ws s.heap (0) (0)) A) ([.ref h0, .int x1] : List Value).toArray s (PC ws + (0)) (PS ws + (0)) A) (F0 m 117 ls []) := by
    refine lv_aload_n hx hb dX11_needOf_117 rfl (lv_at hl 1 rfl) ?_
    refine lv_lload_n hx hb dX11_needOf_118 rfl (lv_at hl 0 rfl) ?_
    obtain ⟨z_76, ez_76⟩ : ∃ y : Int32, (r_5 : Int64).toInt32 = y := ⟨_, rfl⟩
    refine lv_l2i (v := z_76) hx hb dX11_needOf_119 ez_76 ?_
    have hFc := gfree hD hS hA
    refine W_led (fun hL0 => ?_)
    refine va_calli (va_runV (As := [.int z_76]) (rest := []) ⟨hx, hb, hml, hown, hts⟩ (m_X11_methodEntryOf_x l g H ws h0 (z_76) wb wc hG o_h0 (gN_of hD hk_1 (j := 7) rfl) tk0 tk1 tk2 tk3 (by have q_pw3 := pw3; have q_pwc := pwc; omega) (by have q_pw3 := pw3; have q_pwc := pwc; omega)) (cwV 1 hts (gd_V kw_226 kw_214 kw_215 kw_83 kw_213) rfl rfl rfl (by decide +kernel) ⟨Nat.le_of_ble_eq_true rfl, Nat.le_of_ble_eq_true rfl⟩) ⟨gblindH, va_recv hK hP (ci := 10) (q0 := k_1) rfl hk_1, fun U hU hW9 => gmkH hU hW9 hP hK hD hex hE hS hFc⟩ rfl rfl hl.1 rfl (lv_room (Nat.le_of_ble_eq_true rfl)) dX11_needOf_120 ⟨(show 0 + (PC ws + (0)) ≤ PC ws + (0) from (by have e0 : (0 : Int32).toInt = 0 := (by decide); omega)), (show 0 + (PS ws + (0)) ≤ PS ws + (0) from (by have e0 : (0 : Int32).toInt = 0 := (by decide); omega))⟩) hS (fun q _ h => hFc q h) hFc (fun r_77 ws_78 t9 H1 locs ht9 hvm9 hw9 hB9 hz9 hk9 hS => ?_)
    obtain ⟨E_79, Fr_80, hG, hP1, hD1, dc_81, ds_82, hLd, hdc_81, hds_82⟩ := hB9
    rw [ht9] at hLd
    refine W_tight (hL0.tr hLd).1 (hL0.tr hLd).2.1 ?_
    clear hL0 hLd
    have hP : va_P (gD g) cl0 ws_78 H1 := by rw [← ht9]; exact hP1
    have hD : va_D A ws_78 := hD1.weaken (fun _ _ _ h => hFc _ h)
    obtain ⟨hw9, xp_83, xp_84⟩ := hw9
    clear hP1 hD1 hz9 hk9 hvm9 ht9 hw9
    generalize H1 = H at hP hS ⊢
    have aa_85 := a_r3_1
    have aa_86 := a_r4_1
    have aa_87 := a_r10_1
    have aa_88 := a_r11_1
    have aa_89 := a_r12_1
    have aa_90 := a_r13_1
    have aa_91 := a_r16_1
    have aa_92 := a_r17_1
    have o_h0 := E_79.1 _ _ o_h0
    refine W_led (fun hLd => ?_)
    have hcl : 0 + dc_81 + PC ws_78 ≤ PC ws + (0) := (by omega)
    have hsl : 0 + ds_82 + PS ws_78 ≤ PS ws + (0) := (by omega)
    refine W.widen (k := PC ws + (0)) (n := PS ws + (0)) (by omega) (by omega) ?_
    exact W.iret (v := r_77) hx hb hr (fun t9 ht9 hW9 => ⟨⟨_, ws_78, rfl, ⟨trivial, xp_83, xp_84⟩, ⟨E_79, (gF.mo (F' := [(0, 0), (0, 1), (10, 5), (10, 6)]) (C' := [(0, 0), (6, 0), (10, 3), (10, 4), (10, 12), (10, 13)]) (S' := none) Fr_80 (fun _ h => h) (by decide) (Or.inr rfl)), hG, by rw [ht9]; exact hP, hD, _, _, by rw [ht9]; exact hLd, hcl, hsl⟩⟩, hS.F ht9⟩) hS.2.2 dX11_needOf_123
  by_cases c9_17 : (r_8 : Int32).toInt = 17
  · exact lv_lookup (off := 51) (tgt := 68) hx hb dX11_needOf_17 (by decide) (by rw [c9_17]; decide) (by decide) K_17_68
  by_cases c9_20 : (r_8 : Int32).toInt = 20
  · exact lv_lookup (off := 71) (tgt := 88) hx hb dX11_needOf_17 (by decide) (by rw [c9_20]; decide) (by decide) K_17_88
  by_cases c9_178 : (r_8 : Int32).toInt = 178
  · exact lv_lookup (off := 93) (tgt := 110) hx hb dX11_needOf_17 (by decide) (by rw [c9_178]; decide) (by decide) K_17_110
  by_cases c9_179 : (r_8 : Int32).toInt = 179
  · exact lv_lookup (off := 93) (tgt := 110) hx hb dX11_needOf_17 (by decide) (by rw [c9_179]; decide) (by decide) K_17_110
  by_cases c9_184 : (r_8 : Int32).toInt = 184
  · exact lv_lookup (off := 100) (tgt := 117) hx hb dX11_needOf_17 (by decide) (by rw [c9_184]; decide) (by decide) K_17_117
  exact lv_lookup (off := 107) (tgt := 124) hx hb dX11_needOf_17 (by decide) (lk_cons c9_17 (lk_cons c9_20 (lk_cons c9_178 (lk_cons c9_179 (lk_cons c9_184 lk_nil))))) (by decide) K_17_124
