set_option maxHeartbeats 1000000 in
set_option maxRecDepth 100000 in
theorem m_X11_want_x (l : Launch) (g : Gm) (H0 : Heap) (ws : va_W) (h0 : Nat) (x1 : Int32) (wb : Int) (wc : Int) (hG : Good g ws) (o_h0 : gC ws h0 10) (tk0 : wcP ws h0 0 wb wc) (pwc : 0 ≤ wb ∧ 0 ≤ wc ∧ (wb) ≤ 131072 ∧ (1) ≤ 131072) : Met l yX11_want (wt yX11_want cX11_want 2 none) ({ frames := 3, cells := PC ws + (0), slots := PS ws + (0), locals := 83 }) (va_Pc [.ref h0, .int x1] (st_H g H0 ws)) (va_Qv (fun (u9 : va_W) => (True) ∧ (wcP u9 h0 0 (wb) (1))) (gQ2 g [(0, 0), (0, 1)] [(0, 0), (6, 0)] none (va_A ws H0.size) ws H0 (0) (0)) (va_A ws H0.size)) (PC ws + (0)) (PS ws + (0)) (va_A ws H0.size) := by
  refine Met.ofW (cc := cX11_want) (maxL := 2) (ret := none) (by decide) rfl ?_
  intro p e s m args below meth c s₁ B hml hv
  obtain ⟨rfl, hH0, hsz, hP, hK, hD0, hex, hE⟩ := hv
  have hx := B.exec
  have hb := B.bytes
  have hr := B.returns
  have hts0 := atoms_spec (ws := wt yX11_want cX11_want 2 none) B.pre
  have hts : ∀ w ∈ tb, w.before _ s = true := fun w h => hts0 w (List.mem_cons_of_mem _ h)
  have hown : s.vm.findClass RX11 = some m.cls := findClass_of_methodNamed B.named
  subst hH0
  have hD := hD0.self (sz := s.heap.size)
  generalize hAe : va_A ws s.heap.size = A at hD hE ⊢
  have hA : ∀ q : Nat, s.heap.size ≤ q → A q := fun q h => by rw [← hAe]; exact Or.inr h
  have hS : va_S A s.heap s.heap [] := va_S.rf
  have hl := lv_entry ([.ref h0, .int x1]) (n := 2) (Nat.le_of_ble_eq_true rfl)
  rw [lg_entry_eq]
  generalize (lg_sl ([.ref h0, .int x1]) ++ List.replicate (2 - (lg_sl ([.ref h0, .int x1])).length) Slot.unset).toArray = ls at hl ⊢
  have hl : lv_has ls 2 [(0, .ref h0), (1, .int x1)] := hl
  refine lv_aload_n hx hb dX11_want_0 rfl (lv_at hl 0 rfl) ?_
  obtain ⟨k_1, fs9, hk_1⟩ := gC_of o_h0
  obtain ⟨r0_1, r1_1, r2_1, r3_1, n3_1, r4_1, n4_1, c5_1, c6_1, v7_1, c8_1, c9_1, r10_1, n10_1, r11_1, n11_1, r12_1, n12_1, r13_1, n13_1, r14_1, v15_1, r16_1, n16_1, r17_1, n17_1, rfl, o_r0_1, o_r1_1, o_r2_1, a_r3_1, f4_1, a_r4_1, f6_1, hz_c6_1, o_v7_1, a_r10_1, f10_1, a_r11_1, f12_1, a_r12_1, f14_1, a_r13_1, f16_1, o_r14_1, o_v15_1, a_r16_1, f20_1, a_r17_1, f22_1, f23_1, f24_1, f25_1, f26_1, f27_1, f28_1, -⟩ := (hG.1 _ _ _ _ hk_1).hX11 rfl
  refine va_get (D := gD g) (ci := 10) (v := .ref r2_1) (C := RX11) (T := TX11) (N := 18) hx hb hts inX11 hown hK hP k_1 hk_1 rfl 2 (by decide) (hts _ kw_139) (fun _ h9 => h9) rfl dX11_want_1 ?_
  refine lv_iconst (v := 0) hx hb dX11_want_4 (by decide) ?_
  have hkW := hk_1
  have hDW := hD
  obtain ⟨k_2, fs9, hk_2⟩ := gC_of o_r2_1
  obtain ⟨r0_2, n0_2, c1_2, rfl, a_r0_2, f1_2, f2_2, f3_2, f4_2, f5_2, -⟩ := (hG.1 _ _ _ _ hk_2).hX0 rfl
  have hV9 : okv ws 0 1 (.int 0) := okv_i
  refine va_put (D := gD g) (ci := 0) (v := .int 0) (ty := .int) (C := RX0) (T := TX0) (N := 2) hx hb hts inX0 tyX0 tyX0_ok nmX0 hown hK hP hD hS k_2 hk_2 rfl 1 (by decide) (hts _ kw_101) (fun _ h9 => h9) rfl (by decide +kernel) rfl rfl (Nat.le_of_ble_eq_true rfl) dX11_want_5 (fun H locs hP hD hS => ?_)
  have f_3 : 0 ≤ (0 : Int32).toInt := (by have e0 : (0 : Int32).toInt = 0 := (by decide); omega)
  have f_4 : (0 : Int32).toInt ≤ n0_2 := (by have e0 : (0 : Int32).toInt = 0 := (by decide); have q_f1_2 := f1_2; have q_f3_2 := f3_2; have q_f4_2 := f4_2; have q_f5_2 := f5_2; have q_f_3 := f_3; have q_f2_2 := f2_2; have g_c1_2 := i_rg c1_2; omega)
  have hi_5 : invX0 g ws r2_1 [.ref r0_2, .int 0] := ⟨r0_2, (n0_2), (0), rfl, a_r0_2, f1_2, f_3, f_4, f4_2, f5_2, trivial⟩
  obtain ⟨ws_6, e_ws_6⟩ : ∃ z, z = ws.set k_2 (r2_1, .inr (0, [.ref r0_2, .int 0])) := ⟨_, rfl⟩
  have hP : va_P (gD g) cl0 ws_6 H := by rw [e_ws_6]; exact hP
  have hD : va_D A ws_6 := by rw [e_ws_6]; exact hD
  have E_7 : gE ws ws_6 := gE_set e_ws_6 hk_2 (cw_o (fi := 1) (v := .int 0) rfl (by decide))
  have hG : Good g ws_6 := Good_set (fi := 1) (v := .int 0) e_ws_6 hk_2 E_7 rfl hV9 hG (ivX0 hi_5)
  have Fr_8 : gF [(0, 1)] [] (some r2_1) ws ws_6 := gF_put (fi := 1) (v := .int 0) e_ws_6 hk_2 rfl (by decide)
  have pp_9 := Fr_8.pp
  have hkN := gset_self e_ws_6 hk_2
  have hk_1 := gset_ob e_ws_6 hk_2 hk_1 (by decide)
  have hk_2 := hkN
  have o_h0 := E_7.1 _ _ o_h0
  have o_r0_1 := E_7.1 _ _ o_r0_1
  have o_r1_1 := E_7.1 _ _ o_r1_1
  have o_r2_1 := E_7.1 _ _ o_r2_1
  have a_r3_1 := E_7.1 _ _ a_r3_1
  have a_r4_1 := E_7.1 _ _ a_r4_1
  have o_v7_1 : ∀ b, v7_1 = some b → gC ws_6 b 9 := fun b h => E_7.1 _ _ (o_v7_1 b h)
  have a_r10_1 := E_7.1 _ _ a_r10_1
  have a_r11_1 := E_7.1 _ _ a_r11_1
  have a_r12_1 := E_7.1 _ _ a_r12_1
  have a_r13_1 := E_7.1 _ _ a_r13_1
  have o_r14_1 := E_7.1 _ _ o_r14_1
  have o_v15_1 : ∀ b, v15_1 = some b → gC ws_6 b 7 := fun b h => E_7.1 _ _ (o_v15_1 b h)
  have a_r16_1 := E_7.1 _ _ a_r16_1
  have a_r17_1 := E_7.1 _ _ a_r17_1
  have a_r0_2 := E_7.1 _ _ a_r0_2
  have tq_10 : wcP ws_6 h0 0 wb 0 := wcP_2 hDW hG Fr_8 (by decide) (by decide) (by decide) (by decide) hkW rfl (gP_of hD hk_2 (fun c9 e9 => by cases e9; decide)) tk0
  refine lv_aload_n hx hb dX11_want_8 rfl (lv_at hl 0 rfl) ?_
  refine va_get (D := gD g) (ci := 10) (v := .ref r2_1) (C := RX11) (T := TX11) (N := 18) hx hb hts inX11 hown hK hP k_1 hk_1 rfl 2 (by decide) (hts _ kw_139) (fun _ h9 => h9) rfl dX11_want_9 ?_
  refine lv_iload_n hx hb dX11_want_12 rfl (lv_at hl 1 rfl) ?_
  have wb_11 : (0 : Int32).toInt ≤ 0 := wcP_u2 hD hk_1 rfl hk_2 rfl tq_10
  have hkW := hk_1
  have hDW := hD
  have hFc := gfree hD hS hA
  have pg_12 := ge_10_17 hD hk_1 rfl a_r17_1
  have pg_13 := ge_0_0 hD hk_2 rfl a_r0_2
  refine W_led (fun hL0 => ?_)
  refine va_callv (va_runV (As := [.int x1]) (rest := []) ⟨hx, hb, hml, hown, hts⟩ (m_X0_put l g H ws_6 r2_1 (x1) (0) hG o_r2_1 (gP_of hD hk_2 (fun q90 e90 => by cases e90; exact (by have e0 : (0 : Int32).toInt = 0 := (by decide); have q_f_3 := f_3; have q_wb_11 := wb_11; omega))) (gP_of hD hk_2 (fun q90 e90 => by cases e90; exact (by have e0 : (0 : Int32).toInt = 0 := (by decide); have q_f_3 := f_3; have q_wb_11 := wb_11; omega)))) (cwV 1 hts (gd_V kw_140 kw_13 kw_14 kw_3 kw_12) rfl rfl rfl (by decide +kernel) ⟨Nat.le_of_ble_eq_true rfl, Nat.le_of_ble_eq_true rfl⟩) ⟨gblindH, va_recv hK hP (ci := 0) (q0 := k_2) rfl hk_2, fun U hU hW9 => gmkH hU hW9 hP hK hD hex hE hS hFc⟩ rfl rfl hl.1 rfl (lv_room (Nat.le_of_ble_eq_true rfl)) dX11_want_13 ⟨(show 0 + (PC ws_6 + (0)) ≤ PC ws + (0) from (by have e0 : (0 : Int32).toInt = 0 := (by decide); have q_f_3 := f_3; have q_wb_11 := wb_11; omega)), (show 0 + (PS ws_6 + (0)) ≤ PS ws + (0) from (by have e0 : (0 : Int32).toInt = 0 := (by decide); have q_f_3 := f_3; have q_wb_11 := wb_11; omega))⟩) hS (fun q _ h => hFc q h) hFc (fun  ws_14 t9 H1 locs ht9 hvm9 hw9 hB9 hz9 hk9 hS => ?_)
  obtain ⟨E_15, Fr_16, hG, hP1, hD1, dc_17, ds_18, hLd, hdc_17, hds_18⟩ := hB9
  rw [ht9] at hLd
  refine W_tight (hL0.tr hLd).1 (hL0.tr hLd).2.1 ?_
  clear hL0 hLd
  have hP : va_P (gD g) cl0 ws_14 H1 := by rw [← ht9]; exact hP1
  have hD : va_D A ws_14 := hD1.weaken (fun _ _ _ h => hFc _ h)
  have kf_19 := hw9
  clear hP1 hD1 hz9 hk9 hvm9 ht9 hw9
  generalize H1 = H at hP hS ⊢
  have aa_20 := a_r3_1
  have aa_21 := a_r4_1
  have aa_22 := a_r10_1
  have aa_23 := a_r11_1
  have aa_24 := a_r12_1
  have aa_25 := a_r13_1
  have aa_26 := a_r16_1
  have aa_27 := a_r17_1
  have aa_28 := a_r0_2
  have o_h0 := E_15.1 _ _ o_h0
  have tq_29 : wcP ws_14 h0 0 wb (0 + 1) := wcP_2 hDW hG Fr_16 (by decide) (by decide) (by decide) (by decide) hkW rfl (fun k9 ci9 fs9 h9 c9 e9 => by have w9 := kf_19 _ _ _ h9 c9 e9; omega) tq_10
  refine W_led (fun hLd => ?_)
  have hcl : 0 + dc_17 + PC ws_14 ≤ PC ws + (0) := (by have e0 : (0 : Int32).toInt = 0 := (by decide); have q_f_3 := f_3; have q_wb_11 := wb_11; omega)
  have hsl : 0 + ds_18 + PS ws_14 ≤ PS ws + (0) := (by have e0 : (0 : Int32).toInt = 0 := (by decide); have q_f_3 := f_3; have q_wb_11 := wb_11; omega)
  refine W.widen (k := PC ws + (0)) (n := PS ws + (0)) (by omega) (by omega) ?_
  have tq_30 : wcP ws_14 h0 0 (wb) (1) := wcP_le (by have e0 : (0 : Int32).toInt = 0 := (by decide); have q_f_3 := f_3; have q_wb_11 := wb_11; have e09 : (0 : Int32).toInt = 0 := rfl; omega) (by have e0 : (0 : Int32).toInt = 0 := (by decide); have q_pwc := pwc; have q_f_3 := f_3; have q_wb_11 := wb_11; have e09 : (0 : Int32).toInt = 0 := rfl; omega) (by have e0 : (0 : Int32).toInt = 0 := (by decide); have e1 : (1 : Int32).toInt = 1 := (by decide); have q_f_3 := f_3; have q_wb_11 := wb_11; have e09 : (0 : Int32).toInt = 0 := rfl; omega) tq_29
  exact W.vret hx hb hr (fun t9 ht9 hW9 => ⟨⟨ws_14, rfl, ⟨trivial, tq_30⟩, ⟨(E_7.tr E_15), (gF.tr (gF.mo (F' := [(0, 0), (0, 1)]) (C' := [(0, 0), (6, 0)]) (S' := none) Fr_8 (by decide) (fun _ h => absurd h List.not_mem_nil) (Or.inl rfl)) (gF.mo (F' := [(0, 0), (0, 1)]) (C' := [(0, 0), (6, 0)]) (S' := none) Fr_16 (fun _ h => h) (fun _ h => h) (Or.inl rfl))), hG, by rw [ht9]; exact hP, hD, _, _, by rw [ht9]; exact hLd, hcl, hsl⟩⟩, hS.F ht9⟩) hS.2.2 dX11_want_16
set_option maxHeartbeats 1000000 in
set_option maxRecDepth 100000 in
theorem m_X11_isWanted (l : Launch) (g : Gm) (sz : Nat) (ws : va_W) (h0 : Nat) (x1 : Int32) (hG : Good g ws) (o_h0 : gC ws h0 10) (tk0 : enP g ws h0) (p0 : 0 ≤ x1.toInt ∧ x1.toInt < 500) : Met l yX11_isWanted (wt yX11_isWanted cX11_isWanted 5 (some .boolean)) ({ frames := 0, cells := 0, slots := 0, locals := 0 }) (va_Pc [.ref h0, .int x1] (st_G g sz ws)) (va_Qi (fun (r : Int32) (u9 : Unit) => r = 0 ∨ r = 1) (gQ0 g (va_A ws sz) ws) (va_A ws sz)) (0) (0) (va_A ws sz) := by
  refine Met.ofW (cc := cX11_isWanted) (maxL := 5) (ret := (some .boolean)) (by decide) rfl ?_
  intro p e s m args below meth c s₁ B hml hv
  obtain ⟨rfl, hsz, hP, hK, hD0, hex, hE⟩ := hv
  have hx := B.exec
  have hb := B.bytes
  have hr := B.returns
  have hts0 := atoms_spec (ws := wt yX11_isWanted cX11_isWanted 5 (some .boolean)) B.pre
  have hts : ∀ w ∈ tb, w.before _ s = true := fun w h => hts0 w (List.mem_cons_of_mem _ h)
  have hown : s.vm.findClass RX11 = some m.cls := findClass_of_methodNamed B.named
  subst hsz
  have hD := hD0.self (sz := s.heap.size)
  generalize hAe : va_A ws s.heap.size = A at hD hE ⊢
  have hA : ∀ q : Nat, s.heap.size ≤ q → A q := fun q h => by rw [← hAe]; exact Or.inr h
  have hS : va_S A s.heap s.heap [] := va_S.rf
  have hl := lv_entry ([.ref h0, .int x1]) (n := 5) (Nat.le_of_ble_eq_true rfl)
  rw [lg_entry_eq]
  generalize (lg_sl ([.ref h0, .int x1]) ++ List.replicate (5 - (lg_sl ([.ref h0, .int x1])).length) Slot.unset).toArray = ls at hl ⊢
  have hl : lv_has ls 5 [(0, .ref h0), (1, .int x1)] := hl
  refine lv_aload_n hx hb dX11_isWanted_0 rfl (lv_at hl 0 rfl) ?_
  obtain ⟨k_1, fs9, hk_1⟩ := gC_of o_h0
  obtain ⟨r0_1, r1_1, r2_1, r3_1, n3_1, r4_1, n4_1, c5_1, c6_1, v7_1, c8_1, c9_1, r10_1, n10_1, r11_1, n11_1, r12_1, n12_1, r13_1, n13_1, r14_1, v15_1, r16_1, n16_1, r17_1, n17_1, rfl, o_r0_1, o_r1_1, o_r2_1, a_r3_1, f4_1, a_r4_1, f6_1, hz_c6_1, o_v7_1, a_r10_1, f10_1, a_r11_1, f12_1, a_r12_1, f14_1, a_r13_1, f16_1, o_r14_1, o_v15_1, a_r16_1, f20_1, a_r17_1, f22_1, f23_1, f24_1, f25_1, f26_1, f27_1, f28_1, -⟩ := (hG.1 _ _ _ _ hk_1).hX11 rfl
  refine va_get (D := gD g) (ci := 10) (v := .ref r3_1) (C := RX11) (T := TX11) (N := 18) hx hb hts inX11 hown hK hP k_1 hk_1 rfl 3 (by decide) (hts _ kw_145) (fun _ h9 => h9) rfl dX11_isWanted_1 ?_
  refine lv_iload_n hx hb dX11_isWanted_4 rfl (lv_at hl 1 rfl) ?_
  obtain ⟨k_2, f_2, hk_2⟩ := gI_of a_r3_1
  refine va_iald hx hb hK hP k_2 1 hk_2 rfl (i_in2 (by have q_p0 := p0; have q_f4_1 := f4_1; have q_f23_1 := f23_1; have g_x1 := i_rg x1; omega)) dX11_isWanted_5 ?_
  refine lv_topi (fun z_3 ez_3 => ?_)
  have en_4 := enP_at hD hk_1 rfl hk_2 ez_3 tk0
  refine lv_istore_n (lv' := [(2, .int z_3), (0, .ref h0), (1, .int x1)]) hx hb dX11_isWanted_6 rfl hl (by decide) rfl (fun ls hl => ?_)
  refine lv_aload_n hx hb dX11_isWanted_7 rfl (lv_at hl 1 rfl) ?_
  refine va_get (D := gD g) (ci := 10) (v := .ref r4_1) (C := RX11) (T := TX11) (N := 18) hx hb hts inX11 hown hK hP k_1 hk_1 rfl 4 (by decide) (hts _ kw_149) (fun _ h9 => h9) rfl dX11_isWanted_8 ?_
  refine lv_iload_n hx hb dX11_isWanted_11 rfl (lv_at hl 2 rfl) ?_
  obtain ⟨k_5, f_5, hk_5⟩ := gI_of a_r4_1
  refine va_iald hx hb hK hP k_5 1 hk_5 rfl (i_in2 (by have q_p0 := p0; have q_f6_1 := f6_1; have q_f24_1 := f24_1; have g_x1 := i_rg x1; omega)) dX11_isWanted_12 ?_
  refine lv_topi (fun z_6 ez_6 => ?_)
  refine lv_iload_n hx hb dX11_isWanted_13 rfl (lv_at hl 0 rfl) ?_
  refine lv_isub hx hb dX11_isWanted_14 ?_
  refine lv_topi (fun z_7 ez_7 => ?_)
  refine lv_istore_n (lv' := [(3, .int z_7), (2, .int z_3), (0, .ref h0), (1, .int x1)]) hx hb dX11_isWanted_15 rfl hl (by decide) rfl (fun ls hl => ?_)
  refine lv_iload_n hx hb dX11_isWanted_16 rfl (lv_at hl 0 rfl) ?_
  refine lv_aload_n hx hb dX11_isWanted_17 rfl (lv_at hl 2 rfl) ?_
  refine va_get (D := gD g) (ci := 10) (v := .ref r2_1) (C := RX11) (T := TX11) (N := 18) hx hb hts inX11 hown hK hP k_1 hk_1 rfl 2 (by decide) (hts _ kw_139) (fun _ h9 => h9) rfl dX11_isWanted_18 ?_
  obtain ⟨k_8, fs9, hk_8⟩ := gC_of o_r2_1
  obtain ⟨r0_8, n0_8, c1_8, rfl, a_r0_8, f1_8, f2_8, f3_8, f4_8, f5_8, -⟩ := (hG.1 _ _ _ _ hk_8).hX0 rfl
  refine va_get (D := gD g) (ci := 0) (v := .int c1_8) (C := RX0) (T := TX0) (N := 2) hx hb hts inX0 hown hK hP k_8 hk_8 rfl 1 (by decide) (hts _ kw_101) (fun _ h9 => h9) rfl dX11_isWanted_21 ?_
  have J_48 : ∀  (H : Heap) (locs : List Loc) (ls : Array Slot), va_P (gD g) cl0 ws H → va_D A ws → va_S A s.heap H locs → lv_has ls 5 [] → W p l e (headSpec (wt yX11_isWanted cX11_isWanted 5 (some .boolean)) ({ frames := 0, cells := 0, slots := 0, locals := 0 })).room s m ([.ref h0, .int x1] : List Value).toArray below meth c H locs (0) (0) (MQ below (va_Qi (fun (r : Int32) (u9 : Unit) => r = 0 ∨ r = 1) (gQ0 g A ws) A) ([.ref h0, .int x1] : List Value).toArray s (0) (0) A) (F0 m 48 ls []) := by
    intro  H locs ls  hP hD hS hl
    refine lv_iconst (v := 0) hx hb dX11_isWanted_48 (by decide) ?_
    refine W.widen (k := 0) (n := 0) (Nat.le_of_ble_eq_true rfl) (Nat.le_of_ble_eq_true rfl) ?_
    exact W.zret (v := 0) hx hb hr (nz (Or.inl rfl)) (fun t9 ht9 hW9 => ⟨⟨_, (), rfl, (Or.inl rfl), ⟨by rw [ht9]; exact hP, hD⟩⟩, hS.F ht9⟩) hS.2.2 dX11_isWanted_49
  refine lv_icmp_ne (tgt := 48) hx hb dX11_isWanted_24 (by decide) (fun c_11 => ?_) (fun c_11 => ?_)
  · exact J_48  _ _ ls  hP hD hS (lv_sub hl [] rfl)
  · refine lv_iload_n hx hb dX11_isWanted_27 rfl (lv_at hl 1 rfl) ?_
    refine lv_if_lt (tgt := 48) hx hb dX11_isWanted_28 (by decide) (fun c_12 => ?_) (fun c_12 => ?_)
    · exact J_48  _ _ ls  hP hD hS (lv_sub hl [] rfl)
    · refine lv_aload_n hx hb dX11_isWanted_31 rfl (lv_at hl 2 rfl) ?_
      refine va_get (D := gD g) (ci := 10) (v := .ref r4_1) (C := RX11) (T := TX11) (N := 18) hx hb hts inX11 hown hK hP k_1 hk_1 rfl 4 (by decide) (hts _ kw_149) (fun _ h9 => h9) rfl dX11_isWanted_32 ?_
      refine lv_iload_n hx hb dX11_isWanted_35 rfl (lv_at hl 3 rfl) ?_
      refine va_iald hx hb hK hP k_5 1 hk_5 rfl (i_in2 (by have q_p0 := p0; have q_f6_1 := f6_1; have q_f24_1 := f24_1; have g_x1 := i_rg x1; omega)) dX11_isWanted_36 ?_
      refine lv_topi (fun z_13 ez_13 => ?_)
      have iw_14 : z_13.toInt = z_6.toInt := congrArg Int32.toInt (ez_13.trans ez_6.symm)
      refine lv_aload_n hx hb dX11_isWanted_37 rfl (lv_at hl 2 rfl) ?_
      refine va_get (D := gD g) (ci := 10) (v := .ref r0_1) (C := RX11) (T := TX11) (N := 18) hx hb hts inX11 hown hK hP k_1 hk_1 rfl 0 (by decide) (hts _ kw_113) (fun _ h9 => h9) rfl dX11_isWanted_38 ?_
      obtain ⟨k_15, fs9, hk_15⟩ := gC_of o_r0_1
      obtain ⟨r0_15, n0_15, c1_15, rfl, a_r0_15, f1_15, f2_15, f3_15, f4_15, f5_15, -⟩ := (hG.1 _ _ _ _ hk_15).hX0 rfl
      refine va_get (D := gD g) (ci := 0) (v := .ref r0_15) (C := RX0) (T := TX0) (N := 2) hx hb hts inX0 hown hK hP k_15 hk_15 rfl 0 (by decide) (hts _ kw_178) (fun _ h9 => h9) rfl dX11_isWanted_41 ?_
      obtain ⟨k_16, f_16, hk_16⟩ := gI_of a_r0_15
      obtain ⟨z_17, ez_17⟩ : ∃ z : Int32, Int32.ofNat n0_15 = z := ⟨_, rfl⟩
      refine va_alen (v := z_17) hx hb hK hP k_16 0 hk_16 rfl ez_17 dX11_isWanted_44 ?_
      refine lv_icmp_le (tgt := 50) hx hb dX11_isWanted_45 (by decide) (fun c_18 => ?_) (fun c_18 => ?_)
      · refine lv_iconst (v := 0) hx hb dX11_isWanted_50 (by decide) ?_
        refine lv_istore (lv' := [(4, .int 0), (3, .int z_7), (2, .int z_3), (0, .ref h0), (1, .int x1)]) hx hb dX11_isWanted_51 hl (by decide) rfl (fun ls hl => ?_)
        have J_53 : ∀ (n9 : Nat) (v4_19 : Int32) (H : Heap) (locs : List Loc) (ls : Array Slot), (2147483647 - v4_19.toInt).toNat = n9 → 0 ≤ v4_19.toInt → va_P (gD g) cl0 ws H → va_D A ws → va_S A s.heap H locs → lv_has ls 5 [(0, .ref h0), (2, .int z_3), (3, .int z_7), (4, .int v4_19)] → W p l e (headSpec (wt yX11_isWanted cX11_isWanted 5 (some .boolean)) ({ frames := 0, cells := 0, slots := 0, locals := 0 })).room s m ([.ref h0, .int x1] : List Value).toArray below meth c H locs (0) (0) (MQ below (va_Qi (fun (r : Int32) (u9 : Unit) => r = 0 ∨ r = 1) (gQ0 g A ws) A) ([.ref h0, .int x1] : List Value).toArray s (0) (0) A) (F0 m 53 ls []) := by
          intro n9
          induction n9 using Nat.strongRecOn with
          | ind n9 ih_53 =>
            intro v4_19 H locs ls hm9 iv_20 hP hD hS hl
            subst hm9
            refine lv_iload hx hb dX11_isWanted_53 (lv_at hl 3 rfl) ?_
            refine lv_iload_n hx hb dX11_isWanted_55 rfl (lv_at hl 2 rfl) ?_
            have J_105 : ∀  (H : Heap) (locs : List Loc) (ls : Array Slot), va_P (gD g) cl0 ws H → va_D A ws → va_S A s.heap H locs → lv_has ls 5 [] → W p l e (headSpec (wt yX11_isWanted cX11_isWanted 5 (some .boolean)) ({ frames := 0, cells := 0, slots := 0, locals := 0 })).room s m ([.ref h0, .int x1] : List Value).toArray below meth c H locs (0) (0) (MQ below (va_Qi (fun (r : Int32) (u9 : Unit) => r = 0 ∨ r = 1) (gQ0 g A ws) A) ([.ref h0, .int x1] : List Value).toArray s (0) (0) A) (F0 m 105 ls []) := by
              intro  H locs ls  hP hD hS hl
              refine lv_iconst (v := 1) hx hb dX11_isWanted_105 (by decide) ?_
              refine W.widen (k := 0) (n := 0) (Nat.le_of_ble_eq_true rfl) (Nat.le_of_ble_eq_true rfl) ?_
              exact W.zret (v := 1) hx hb hr (nz (Or.inr rfl)) (fun t9 ht9 hW9 => ⟨⟨_, (), rfl, (Or.inr rfl), ⟨by rw [ht9]; exact hP, hD⟩⟩, hS.F ht9⟩) hS.2.2 dX11_isWanted_106
            refine lv_icmp_ge (tgt := 105) hx hb dX11_isWanted_56 (by decide) (fun c_25 => ?_) (fun c_25 => ?_)
            · exact J_105  H locs ls  hP hD hS (lv_sub hl [] rfl)
            · refine lv_iload hx hb dX11_isWanted_59 (lv_at hl 3 rfl) ?_
              refine lv_aload_n hx hb dX11_isWanted_61 rfl (lv_at hl 0 rfl) ?_
              refine va_get (D := gD g) (ci := 10) (v := .ref r2_1) (C := RX11) (T := TX11) (N := 18) hx hb hts inX11 hown hK hP k_1 hk_1 rfl 2 (by decide) (hts _ kw_139) (fun _ h9 => h9) rfl dX11_isWanted_62 ?_
              refine va_get (D := gD g) (ci := 0) (v := .ref r0_8) (C := RX0) (T := TX0) (N := 2) hx hb hts inX0 hown hK hP k_8 hk_8 rfl 0 (by decide) (hts _ kw_178) (fun _ h9 => h9) rfl dX11_isWanted_65 ?_
              obtain ⟨k_26, f_26, hk_26⟩ := gI_of a_r0_8
              obtain ⟨z_27, ez_27⟩ : ∃ z : Int32, Int32.ofNat n0_8 = z := ⟨_, rfl⟩
              refine va_alen (v := z_27) hx hb hK hP k_26 0 hk_26 rfl ez_27 dX11_isWanted_68 ?_
              refine lv_icmp_ge (tgt := 105) hx hb dX11_isWanted_69 (by decide) (fun c_28 => ?_) (fun c_28 => ?_)
              · exact J_105  H locs ls  hP hD hS (lv_sub hl [] rfl)
              · refine lv_aload_n hx hb dX11_isWanted_72 rfl (lv_at hl 0 rfl) ?_
                refine va_get (D := gD g) (ci := 10) (v := .ref r0_1) (C := RX11) (T := TX11) (N := 18) hx hb hts inX11 hown hK hP k_1 hk_1 rfl 0 (by decide) (hts _ kw_113) (fun _ h9 => h9) rfl dX11_isWanted_73 ?_
                refine va_get (D := gD g) (ci := 0) (v := .ref r0_15) (C := RX0) (T := TX0) (N := 2) hx hb hts inX0 hown hK hP k_15 hk_15 rfl 0 (by decide) (hts _ kw_178) (fun _ h9 => h9) rfl dX11_isWanted_76 ?_
                refine lv_iload_n hx hb dX11_isWanted_79 rfl (lv_at hl 1 rfl) ?_
                refine lv_iload hx hb dX11_isWanted_80 (lv_at hl 3 rfl) ?_
                refine lv_iadd hx hb dX11_isWanted_82 ?_
                refine lv_topi (fun z_29 ez_29 => ?_)
                refine va_bald hx hb hK hP k_16 0 hk_16 rfl (i_in2 (by have e0 : (0 : Int32).toInt = 0 := (by decide); have q_f1_15 := f1_15; have q_f3_15 := f3_15; have q_f4_15 := f4_15; have q_f5_15 := f5_15; have q_z_17 := i_len ez_17 f1_15; obtain ⟨u_z_29, q_z_29⟩ := i_add ez_29; have q_en_4 := en_4; obtain ⟨u_z_7, q_z_7⟩ := i_sub ez_7; have q_c_12 := i_nlt c_12; have q_f2_15 := f2_15; have q_c_18 := i_le c_18; have q_iv_20 := iv_20; have q_c_25 := i_nle c_25; have q_c_28 := i_nle c_28; have q_c_11 := i_eq c_11; have q_iw_14 := iw_14; have q_z_27 := i_len ez_27 f1_8; have q_f1_8 := f1_8; have q_f2_8 := f2_8; have q_f3_8 := f3_8; have q_f4_8 := f4_8; have q_f5_8 := f5_8; have g_c1_15 := i_rg c1_15; have g_c1_8 := i_rg c1_8; have g_v4_19 := i_rg v4_19; have g_z_13 := i_rg z_13; have g_z_17 := i_rg z_17; have g_z_27 := i_rg z_27; have g_z_29 := i_rg z_29; have g_z_3 := i_rg z_3; have g_z_6 := i_rg z_6; have g_z_7 := i_rg z_7; omega)) dX11_isWanted_83 ?_
                refine lv_topi (fun z_30 ez_30 => ?_)
                refine lv_aload_n hx hb dX11_isWanted_84 rfl (lv_at hl 0 rfl) ?_
                refine va_get (D := gD g) (ci := 10) (v := .ref r2_1) (C := RX11) (T := TX11) (N := 18) hx hb hts inX11 hown hK hP k_1 hk_1 rfl 2 (by decide) (hts _ kw_139) (fun _ h9 => h9) rfl dX11_isWanted_85 ?_
                refine va_get (D := gD g) (ci := 0) (v := .ref r0_8) (C := RX0) (T := TX0) (N := 2) hx hb hts inX0 hown hK hP k_8 hk_8 rfl 0 (by decide) (hts _ kw_178) (fun _ h9 => h9) rfl dX11_isWanted_88 ?_
                refine lv_iload hx hb dX11_isWanted_91 (lv_at hl 3 rfl) ?_
                refine va_bald hx hb hK hP k_26 0 hk_26 rfl (i_in2 (by have e0 : (0 : Int32).toInt = 0 := (by decide); have q_f1_8 := f1_8; have q_f3_8 := f3_8; have q_f4_8 := f4_8; have q_f5_8 := f5_8; have q_iv_20 := iv_20; have q_c_25 := i_nle c_25; have q_z_27 := i_len ez_27 f1_8; have q_c_28 := i_nle c_28; obtain ⟨u_z_29, q_z_29⟩ := i_add ez_29; have q_en_4 := en_4; obtain ⟨u_z_7, q_z_7⟩ := i_sub ez_7; have q_f2_8 := f2_8; have q_c_11 := i_eq c_11; have q_c_12 := i_nlt c_12; have q_iw_14 := iw_14; have q_c_18 := i_le c_18; have q_z_17 := i_len ez_17 f1_15; have g_c1_8 := i_rg c1_8; have g_v4_19 := i_rg v4_19; have g_z_13 := i_rg z_13; have g_z_17 := i_rg z_17; have g_z_27 := i_rg z_27; have g_z_29 := i_rg z_29; have g_z_3 := i_rg z_3; have g_z_6 := i_rg z_6; have g_z_7 := i_rg z_7; omega)) dX11_isWanted_93 ?_
                refine lv_topi (fun z_31 ez_31 => ?_)
                refine lv_icmp_eq (tgt := 99) hx hb dX11_isWanted_94 (by decide) (fun c_32 => ?_) (fun c_32 => ?_)
                · obtain ⟨z_33, ez_33⟩ : ∃ z : Int32, v4_19 + Int32.ofInt 1 = z := ⟨_, rfl⟩
                  refine lv_iinc (v := z_33) (lv' := [(4, .int z_33), (0, .ref h0), (2, .int z_3), (3, .int z_7)]) hx hb dX11_isWanted_99 hl (k := 3) rfl ez_33 (by decide) rfl (fun ls hl => ?_)
                  refine lv_goto (tgt := 53) hx hb dX11_isWanted_102 (by decide) ?_
                  exact ih_53 _ (by have e0 : (0 : Int32).toInt = 0 := (by decide); obtain ⟨u_z_33, q_z_33⟩ := i_iz ez_33 (by decide) (by decide); have q_iv_20 := iv_20; have q_c_25 := i_nle c_25; have q_c_28 := i_nle c_28; obtain ⟨u_z_29, q_z_29⟩ := i_add ez_29; have q_en_4 := en_4; obtain ⟨u_z_7, q_z_7⟩ := i_sub ez_7; have q_c_11 := i_eq c_11; have q_c_12 := i_nlt c_12; have q_z_27 := i_len ez_27 f1_8; have q_f1_8 := f1_8; have q_f2_8 := f2_8; have q_f3_8 := f3_8; have q_f4_8 := f4_8; have q_f5_8 := f5_8; have q_iw_14 := iw_14; have q_c_18 := i_le c_18; have g_c1_8 := i_rg c1_8; have g_v4_19 := i_rg v4_19; have g_z_13 := i_rg z_13; have g_z_17 := i_rg z_17; have g_z_27 := i_rg z_27; have g_z_29 := i_rg z_29; have g_z_3 := i_rg z_3; have g_z_33 := i_rg z_33; have g_z_6 := i_rg z_6; have g_z_7 := i_rg z_7; omega) (z_33) H locs ls rfl (by have e0 : (0 : Int32).toInt = 0 := (by decide); obtain ⟨u_z_33, q_z_33⟩ := i_iz ez_33 (by decide) (by decide); have q_iv_20 := iv_20; have q_c_25 := i_nle c_25; have q_c_28 := i_nle c_28; obtain ⟨u_z_29, q_z_29⟩ := i_add ez_29; have q_en_4 := en_4; obtain ⟨u_z_7, q_z_7⟩ := i_sub ez_7; have q_c_11 := i_eq c_11; have q_c_12 := i_nlt c_12; have q_z_27 := i_len ez_27 f1_8; have q_f1_8 := f1_8; have q_f2_8 := f2_8; have q_f3_8 := f3_8; have q_f4_8 := f4_8; have q_f5_8 := f5_8; have q_iw_14 := iw_14; have q_c_18 := i_le c_18; have g_c1_8 := i_rg c1_8; have g_v4_19 := i_rg v4_19; have g_z_13 := i_rg z_13; have g_z_17 := i_rg z_17; have g_z_27 := i_rg z_27; have g_z_29 := i_rg z_29; have g_z_3 := i_rg z_3; have g_z_33 := i_rg z_33; have g_z_6 := i_rg z_6; have g_z_7 := i_rg z_7; omega) hP hD hS (lv_sub hl [1, 2, 3, 0] rfl)
                · refine lv_iconst (v := 0) hx hb dX11_isWanted_97 (by decide) ?_
                  refine W.widen (k := 0) (n := 0) (Nat.le_of_ble_eq_true rfl) (Nat.le_of_ble_eq_true rfl) ?_
                  exact W.zret (v := 0) hx hb hr (nz (Or.inl rfl)) (fun t9 ht9 hW9 => ⟨⟨_, (), rfl, (Or.inl rfl), ⟨by rw [ht9]; exact hP, hD⟩⟩, hS.F ht9⟩) hS.2.2 dX11_isWanted_98
        exact J_53 _ (0) _ _ ls rfl (by have e0 : (0 : Int32).toInt = 0 := (by decide); omega) hP hD hS (lv_sub hl [3, 2, 1, 0] rfl)
      · exact J_48  _ _ ls  hP hD hS (lv_sub hl [] rfl)
set_option maxHeartbeats 1000000 in
set_option maxRecDepth 100000 in
theorem m_X11_entryOfWanted (l : Launch) (g : Gm) (H0 : Heap) (ws : va_W) (h0 : Nat) (wb : Int) (wc : Int) (hG : Good g ws) (o_h0 : gC ws h0 10) (tk0 : enP g ws h0) (tk1 : wcP ws h0 0 wb wc) (pw3 : wc ≤ 103) (pwc : 0 ≤ wb ∧ 0 ≤ wc ∧ (wb) ≤ 131072 ∧ (wc) ≤ 131072) : Met l yX11_entryOfWanted (wt yX11_entryOfWanted cX11_entryOfWanted 2 (some .int)) ({ frames := 3, cells := PC ws + (0), slots := PS ws + (0), locals := 85 }) (va_Pc [.ref h0] (st_H g H0 ws)) (va_Qi (fun (r : Int32) (u9 : va_W) => (True) ∧ (enP g u9 h0) ∧ (wcP u9 h0 0 (wb) (wc))) (gQ2 g [(0, 0), (0, 1), (10, 5), (10, 6)] [(0, 0), (6, 0), (10, 3), (10, 4)] none (va_A ws H0.size) ws H0 (0) (0)) (va_A ws H0.size)) (PC ws + (0)) (PS ws + (0)) (va_A ws H0.size) := by
  refine Met.ofW (cc := cX11_entryOfWanted) (maxL := 2) (ret := (some .int)) (by decide) rfl ?_
  intro p e s m args below meth c s₁ B hml hv
  obtain ⟨rfl, hH0, hsz, hP, hK, hD0, hex, hE⟩ := hv
  have hx := B.exec
  have hb := B.bytes
  have hr := B.returns
  have hts0 := atoms_spec (ws := wt yX11_entryOfWanted cX11_entryOfWanted 2 (some .int)) B.pre
  have hts : ∀ w ∈ tb, w.before _ s = true := fun w h => hts0 w (List.mem_cons_of_mem _ h)
  have hown : s.vm.findClass RX11 = some m.cls := findClass_of_methodNamed B.named
  subst hH0
  have hD := hD0.self (sz := s.heap.size)
  generalize hAe : va_A ws s.heap.size = A at hD hE ⊢
  have hA : ∀ q : Nat, s.heap.size ≤ q → A q := fun q h => by rw [← hAe]; exact Or.inr h
  have hS : va_S A s.heap s.heap [] := va_S.rf
  have hl := lv_entry ([.ref h0]) (n := 2) (Nat.le_of_ble_eq_true rfl)
  rw [lg_entry_eq]
  generalize (lg_sl ([.ref h0]) ++ List.replicate (2 - (lg_sl ([.ref h0])).length) Slot.unset).toArray = ls at hl ⊢
  have hl : lv_has ls 2 [(0, .ref h0)] := hl
  obtain ⟨k_1, fs9, hk_1⟩ := gC_of o_h0
  obtain ⟨r0_1, r1_1, r2_1, r3_1, n3_1, r4_1, n4_1, c5_1, c6_1, v7_1, c8_1, c9_1, r10_1, n10_1, r11_1, n11_1, r12_1, n12_1, r13_1, n13_1, r14_1, v15_1, r16_1, n16_1, r17_1, n17_1, rfl, o_r0_1, o_r1_1, o_r2_1, a_r3_1, f4_1, a_r4_1, f6_1, hz_c6_1, o_v7_1, a_r10_1, f10_1, a_r11_1, f12_1, a_r12_1, f14_1, a_r13_1, f16_1, o_r14_1, o_v15_1, a_r16_1, f20_1, a_r17_1, f22_1, f23_1, f24_1, f25_1, f26_1, f27_1, f28_1, -⟩ := (hG.1 _ _ _ _ hk_1).hX11 rfl
  have en_2 := enP_pc hD hk_1 rfl tk0
  refine lv_iconst (v := 1) hx hb dX11_entryOfWanted_0 (by decide) ?_
  refine lv_istore_n (lv' := [(1, .int 1), (0, .ref h0)]) hx hb dX11_entryOfWanted_1 rfl hl (by decide) rfl (fun ls hl => ?_)
  have J_2 : ∀ (n9 : Nat) (v1_3 : Int32) (dc_2_1 : Nat) (ds_2_1 : Nat) (H : Heap) (locs : List Loc) (ls : Array Slot), (2147483647 - v1_3.toInt).toNat = n9 → 0 ≤ v1_3.toInt → dc_2_1 + PC ws ≤ PC ws + (0) → ds_2_1 + PS ws ≤ PS ws + (0) → va_P (gD g) cl0 ws H → va_D A ws → va_S A s.heap H locs → lv_has ls 2 [(0, .ref h0), (1, .int v1_3)] → W p l e (headSpec (wt yX11_entryOfWanted cX11_entryOfWanted 2 (some .int)) ({ frames := 3, cells := PC ws + (0), slots := PS ws + (0), locals := 85 })).room s m ([.ref h0] : List Value).toArray below meth c H locs (dc_2_1) (ds_2_1) (MQ below (va_Qi (fun (r : Int32) (u9 : va_W) => (True) ∧ (enP g u9 h0) ∧ (wcP u9 h0 0 (wb) (wc))) (gQ2 g [(0, 0), (0, 1), (10, 5), (10, 6)] [(0, 0), (6, 0), (10, 3), (10, 4)] none A ws s.heap (0) (0)) A) ([.ref h0] : List Value).toArray s (PC ws + (0)) (PS ws + (0)) A) (F0 m 2 ls []) := by
    intro n9
    induction n9 using Nat.strongRecOn with
    | ind n9 ih_2 =>
      intro v1_3 dc_2_1 ds_2_1 H locs ls hm9 iv_4 hc9 hs9 hP hD hS hl
      subst hm9
      refine lv_iload_n hx hb dX11_entryOfWanted_2 rfl (lv_at hl 1 rfl) ?_
      refine lv_aload_n hx hb dX11_entryOfWanted_3 rfl (lv_at hl 0 rfl) ?_
      refine va_get (D := gD g) (ci := 10) (v := .int c5_1) (C := RX11) (T := TX11) (N := 18) hx hb hts inX11 hown hK hP k_1 hk_1 rfl 5 (by decide) (hts _ kw_114) (fun _ h9 => h9) rfl dX11_entryOfWanted_4 ?_
      have J_35 : ∀ (dc_35_2 : Nat) (ds_35_2 : Nat) (H : Heap) (locs : List Loc) (ls : Array Slot), dc_35_2 + PC ws ≤ PC ws + (0) → ds_35_2 + PS ws ≤ PS ws + (0) → va_P (gD g) cl0 ws H → va_D A ws → va_S A s.heap H locs → lv_has ls 2 [(0, .ref h0)] → W p l e (headSpec (wt yX11_entryOfWanted cX11_entryOfWanted 2 (some .int)) ({ frames := 3, cells := PC ws + (0), slots := PS ws + (0), locals := 85 })).room s m ([.ref h0] : List Value).toArray below meth c H locs (dc_35_2) (ds_35_2) (MQ below (va_Qi (fun (r : Int32) (u9 : va_W) => (True) ∧ (enP g u9 h0) ∧ (wcP u9 h0 0 (wb) (wc))) (gQ2 g [(0, 0), (0, 1), (10, 5), (10, 6)] [(0, 0), (6, 0), (10, 3), (10, 4)] none A ws s.heap (0) (0)) A) ([.ref h0] : List Value).toArray s (PC ws + (0)) (PS ws + (0)) A) (F0 m 35 ls []) := by
        intro dc_35_2 ds_35_2 H locs ls  hc9 hs9 hP hD hS hl
        refine lv_aload_n hx hb dX11_entryOfWanted_35 rfl (lv_at hl 0 rfl) ?_
        refine va_get (D := gD g) (ci := 10) (v := .ref r2_1) (C := RX11) (T := TX11) (N := 18) hx hb hts inX11 hown hK hP k_1 hk_1 rfl 2 (by decide) (hts _ kw_139) (fun _ h9 => h9) rfl dX11_entryOfWanted_36 ?_
        refine lv_iconst (v := 0) hx hb dX11_entryOfWanted_39 (by decide) ?_
        have hFc := gfree hD hS hA
        obtain ⟨k_9, fs_9, hk_9⟩ := gC_of o_r2_1
        refine va_calli (va_runV (As := [.int 0]) (rest := []) ⟨hx, hb, hml, hown, hts⟩ (m_X0_get l g H.size ws r2_1 (0) hG o_r2_1) (cwV 1 hts (gd_V kw_147 kw_1 kw_2 kw_3 kw_0) rfl rfl rfl (by decide +kernel) ⟨Nat.le_of_ble_eq_true rfl, Nat.le_of_ble_eq_true rfl⟩) ⟨gblind, va_recv hK hP (ci := 0) (q0 := k_9) rfl hk_9, fun U hU hW9 => gmk hU hW9 hP hK hD hex hE hS hFc⟩ rfl rfl hl.1 rfl (lv_room (Nat.le_of_ble_eq_true rfl)) dX11_entryOfWanted_40 ⟨(show dc_35_2 + 0 ≤ PC ws + (0) from (by omega)), (show ds_35_2 + 0 ≤ PS ws + (0) from (by omega))⟩) hS (fun q _ h => hFc q h) hFc (fun r_10 u9 t9 H1 locs ht9 hvm9 hw9 hB9 hz9 hk9 hS => ?_)
        have hP : va_P (gD g) cl0 ws H1 := by rw [← ht9]; exact hB9.1
        clear hB9 hz9 hk9 hvm9 ht9 hw9
        generalize H1 = H at hP hS ⊢
        refine lv_iconst (v := 5) hx hb dX11_entryOfWanted_43 (by decide) ?_
        have J_52 : ∀ (t_11 : Int32) (dc_52_3 : Nat) (ds_52_3 : Nat) (H : Heap) (locs : List Loc) (ls : Array Slot), 1 ≤ t_11.toInt ∧ t_11.toInt ≤ 2 → dc_52_3 + PC ws ≤ PC ws + (0) → ds_52_3 + PS ws ≤ PS ws + (0) → va_P (gD g) cl0 ws H → va_D A ws → va_S A s.heap H locs → lv_has ls 2 [(0, .ref h0)] → W p l e (headSpec (wt yX11_entryOfWanted cX11_entryOfWanted 2 (some .int)) ({ frames := 3, cells := PC ws + (0), slots := PS ws + (0), locals := 85 })).room s m ([.ref h0] : List Value).toArray below meth c H locs (dc_52_3) (ds_52_3) (MQ below (va_Qi (fun (r : Int32) (u9 : va_W) => (True) ∧ (enP g u9 h0) ∧ (wcP u9 h0 0 (wb) (wc))) (gQ2 g [(0, 0), (0, 1), (10, 5), (10, 6)] [(0, 0), (6, 0), (10, 3), (10, 4)] none A ws s.heap (0) (0)) A) ([.ref h0] : List Value).toArray s (PC ws + (0)) (PS ws + (0)) A) (F0 m 52 ls [.int t_11]) := by
          intro t_11 dc_52_3 ds_52_3 H locs ls iv_12 hc9 hs9 hP hD hS hl
          refine lv_istore_n (lv' := [(1, .int t_11), (0, .ref h0)]) hx hb dX11_entryOfWanted_52 rfl hl (by decide) rfl (fun ls hl => ?_)
          refine lv_aload_n hx hb dX11_entryOfWanted_53 rfl (lv_at hl 1 rfl) ?_
          refine va_get (D := gD g) (ci := 10) (v := .int c5_1) (C := RX11) (T := TX11) (N := 18) hx hb hts inX11 hown hK hP k_1 hk_1 rfl 5 (by decide) (hts _ kw_114) (fun _ h9 => h9) rfl dX11_entryOfWanted_54 ?_
          refine lv_iload_n hx hb dX11_entryOfWanted_57 rfl (lv_at hl 0 rfl) ?_
          refine lv_iadd hx hb dX11_entryOfWanted_58 ?_
          refine lv_topi (fun z_15 ez_15 => ?_)
          refine lv_sipush (v := 500) hx hb dX11_entryOfWanted_59 (by decide) ?_
          refine lv_icmp_le (tgt := 72) hx hb dX11_entryOfWanted_62 (by decide) (fun c_16 => ?_) (fun c_16 => ?_)
          · refine lv_aload_n hx hb dX11_entryOfWanted_72 rfl (lv_at hl 1 rfl) ?_
            refine va_get (D := gD g) (ci := 10) (v := .ref r3_1) (C := RX11) (T := TX11) (N := 18) hx hb hts inX11 hown hK hP k_1 hk_1 rfl 3 (by decide) (hts _ kw_145) (fun _ h9 => h9) rfl dX11_entryOfWanted_73 ?_
            refine lv_aload_n hx hb dX11_entryOfWanted_76 rfl (lv_at hl 1 rfl) ?_
            refine va_get (D := gD g) (ci := 10) (v := .int c5_1) (C := RX11) (T := TX11) (N := 18) hx hb hts inX11 hown hK hP k_1 hk_1 rfl 5 (by decide) (hts _ kw_114) (fun _ h9 => h9) rfl dX11_entryOfWanted_77 ?_
            refine lv_aload_n hx hb dX11_entryOfWanted_80 rfl (lv_at hl 1 rfl) ?_
            refine va_get (D := gD g) (ci := 10) (v := .ref r0_1) (C := RX11) (T := TX11) (N := 18) hx hb hts inX11 hown hK hP k_1 hk_1 rfl 0 (by decide) (hts _ kw_113) (fun _ h9 => h9) rfl dX11_entryOfWanted_81 ?_
            obtain ⟨k_17, fs9, hk_17⟩ := gC_of o_r0_1
            obtain ⟨r0_17, n0_17, c1_17, rfl, a_r0_17, f1_17, f2_17, f3_17, f4_17, f5_17, -⟩ := (hG.1 _ _ _ _ hk_17).hX0 rfl
            refine va_get (D := gD g) (ci := 0) (v := .int c1_17) (C := RX0) (T := TX0) (N := 2) hx hb hts inX0 hown hK hP k_17 hk_17 rfl 1 (by decide) (hts _ kw_101) (fun _ h9 => h9) rfl dX11_entryOfWanted_84 ?_
            obtain ⟨k_18, f_18, hk_18⟩ := gI_of a_r3_1
            have hkE := hk_1
            have hfE := hk_18
            have hDE := hD
            have hC9 : hol ws r3_1 [(10, 3)] := (hol_u hG.u hk_1 (j := 3) rfl a_r3_1 (by decide))
            have hS9 : holS ws r3_1 none := holS_n
            refine va_iast hx hb hK hP hD hS k_18 1 hk_18 rfl (i_in2 (by have e500 : (500 : Int32).toInt = 500 := (by decide); have q_f4_1 := f4_1; have q_f23_1 := f23_1; have q_en_2 := en_2; obtain ⟨u_z_15, q_z_15⟩ := i_add ez_15; have q_iv_12 := iv_12; have q_c_16 := i_le c_16; have g_c5_1 := i_rg c5_1; have g_t_11 := i_rg t_11; have g_z_15 := i_rg z_15; omega)) dX11_entryOfWanted_87 (fun H locs hP hD hS => ?_)
            obtain ⟨ws_19, e_ws_19⟩ : ∃ z, z = ws.set k_18 (r3_1, .inl (g.cI, n3_1, .inl (upd f_18 (c5_1 : Int32).toNatClampNeg c1_17))) := ⟨_, rfl⟩
            have hP : va_P (gD g) cl0 ws_19 H := by rw [e_ws_19]; exact hP
            have hD : va_D A ws_19 := by rw [e_ws_19]; exact hD
            have E_20 : gE ws ws_19 := gE_ari e_ws_19 hk_18
            have hG : Good g ws_19 := Good_arI e_ws_19 hk_18 hG
            have Fr_21 : gF [] [(10, 3)] none ws ws_19 := gF_ar e_ws_19 hk_18 rfl hC9 hS9
            have pp_22 := Fr_21.pp
            have hk_1 := gset_arO e_ws_19 hk_18 hk_1
            have hk_17 := gset_arO e_ws_19 hk_18 hk_17
            have o_h0 := E_20.1 _ _ o_h0
            have o_r0_1 := E_20.1 _ _ o_r0_1
            have o_r1_1 := E_20.1 _ _ o_r1_1
            have o_r2_1 := E_20.1 _ _ o_r2_1
            have a_r3_1 := E_20.1 _ _ a_r3_1
            have a_r4_1 := E_20.1 _ _ a_r4_1
            have o_v7_1 : ∀ b, v7_1 = some b → gC ws_19 b 9 := fun b h => E_20.1 _ _ (o_v7_1 b h)
            have a_r10_1 := E_20.1 _ _ a_r10_1
            have a_r11_1 := E_20.1 _ _ a_r11_1
            have a_r12_1 := E_20.1 _ _ a_r12_1
            have a_r13_1 := E_20.1 _ _ a_r13_1
            have o_r14_1 := E_20.1 _ _ o_r14_1
            have o_v15_1 : ∀ b, v15_1 = some b → gC ws_19 b 7 := fun b h => E_20.1 _ _ (o_v15_1 b h)
            have a_r16_1 := E_20.1 _ _ a_r16_1
            have a_r17_1 := E_20.1 _ _ a_r17_1
            have a_r0_17 := E_20.1 _ _ a_r0_17
            have tq_23 : enP g ws_19 h0 := enP_w e_ws_19 hDE hkE rfl hfE (by have q_f2_17 := f2_17; have q_f3_17 := f3_17; have q_f1_17 := f1_17; have q_f4_17 := f4_17; have q_f5_17 := f5_17; have g_c1_17 := i_rg c1_17; omega) tk0
            refine lv_aload_n hx hb dX11_entryOfWanted_88 rfl (lv_at hl 1 rfl) ?_
            refine va_get (D := gD g) (ci := 10) (v := .ref r0_1) (C := RX11) (T := TX11) (N := 18) hx hb hts inX11 hown hK hP k_1 hk_1 rfl 0 (by decide) (hts _ kw_113) (fun _ h9 => h9) rfl dX11_entryOfWanted_89 ?_
            refine lv_aload_n hx hb dX11_entryOfWanted_92 rfl (lv_at hl 1 rfl) ?_
            refine va_get (D := gD g) (ci := 10) (v := .ref r2_1) (C := RX11) (T := TX11) (N := 18) hx hb hts inX11 hown hK hP k_1 hk_1 rfl 2 (by decide) (hts _ kw_139) (fun _ h9 => h9) rfl dX11_entryOfWanted_93 ?_
            obtain ⟨k_24, fs9, hk_24⟩ := gC_of o_r2_1
            obtain ⟨r0_24, n0_24, c1_24, rfl, a_r0_24, f1_24, f2_24, f3_24, f4_24, f5_24, -⟩ := (hG.1 _ _ _ _ hk_24).hX0 rfl
            have tq_25 : wcP ws_19 h0 0 wb wc := wcP_mo (Fr_21) (by decide) (by decide) (by decide) (by decide) (by decide) tk1
            have wb_26 : c1_17.toInt ≤ 103 * c5_1.toInt + 0 := wcP_u0 hD hk_1 rfl hk_17 rfl rfl tq_25
            have hkW := hk_1
            have hDW := hD
            have wb_27 : c1_24.toInt ≤ wc := wcP_u2 hD hk_1 rfl hk_24 rfl tq_25
            have hkW := hk_1
            have hFc := gfree hD hS hA
            have pg_28 := ge_10_17 hD hk_1 rfl a_r17_1
            have pg_29 := ge_0_0 hD hk_17 rfl a_r0_17
            have pg_30 := ge_0_0 hD hk_24 rfl a_r0_24
            refine W_led (fun hL0 => ?_)
            refine va_callv (va_runV (As := [.ref r2_1]) (rest := []) ⟨hx, hb, hml, hown, hts⟩ (m_X0_putAll l g H ws_19 r0_1 r2_1 (c1_17) (c1_24) hG o_r0_1 o_r2_1 (gP_of hD hk_17 (fun q90 e90 => by cases e90; exact (by have e500 : (500 : Int32).toInt = 500 := (by decide); have q_f2_17 := f2_17; have q_f3_17 := f3_17; have q_wb_26 := wb_26; have q_en_2 := en_2; obtain ⟨u_z_15, q_z_15⟩ := i_add ez_15; have q_f1_17 := f1_17; have q_f4_17 := f4_17; have q_f5_17 := f5_17; have q_iv_12 := iv_12; have q_c_16 := i_le c_16; have g_c1_17 := i_rg c1_17; have g_c5_1 := i_rg c5_1; have g_t_11 := i_rg t_11; have g_z_15 := i_rg z_15; omega))) (gP_of hD hk_24 (fun q90 e90 => by cases e90; exact (by have q_f2_24 := f2_24; have q_f3_24 := f3_24; have q_wb_27 := wb_27; have q_pw3 := pw3; have q_pwc := pwc; have q_f1_24 := f1_24; have q_f4_24 := f4_24; have q_f5_24 := f5_24; have g_c1_24 := i_rg c1_24; omega))) (by have e500 : (500 : Int32).toInt = 500 := (by decide); have q_f2_17 := f2_17; have q_f3_17 := f3_17; have q_f2_24 := f2_24; have q_f3_24 := f3_24; have q_wb_26 := wb_26; have q_wb_27 := wb_27; have q_pw3 := pw3; have q_pwc := pwc; have q_en_2 := en_2; obtain ⟨u_z_15, q_z_15⟩ := i_add ez_15; have q_f1_17 := f1_17; have q_f4_17 := f4_17; have q_f5_17 := f5_17; have q_f1_24 := f1_24; have q_f4_24 := f4_24; have q_f5_24 := f5_24; have q_iv_12 := iv_12; have q_c_16 := i_le c_16; have g_c1_17 := i_rg c1_17; have g_c1_24 := i_rg c1_24; have g_c5_1 := i_rg c5_1; have g_t_11 := i_rg t_11; have g_z_15 := i_rg z_15; omega)) (cwV 1 hts (gd_V kw_148 kw_25 kw_26 kw_3 kw_24) rfl rfl rfl (by decide +kernel) ⟨Nat.le_of_ble_eq_true rfl, Nat.le_of_ble_eq_true rfl⟩) ⟨gblindH, va_recv hK hP (ci := 0) (q0 := k_17) rfl hk_17, fun U hU hW9 => gmkH hU hW9 hP hK hD hex hE hS hFc⟩ rfl rfl hl.1 rfl (lv_room (Nat.le_of_ble_eq_true rfl)) dX11_entryOfWanted_96 ⟨(show dc_52_3 + (PC ws_19 + (0)) ≤ PC ws + (0) from (by have e0 : (0 : Int32).toInt = 0 := (by decide); omega)), (show ds_52_3 + (PS ws_19 + (0)) ≤ PS ws + (0) from (by have e0 : (0 : Int32).toInt = 0 := (by decide); omega))⟩) hS (fun q _ h => hFc q h) hFc (fun  ws_31 t9 H1 locs ht9 hvm9 hw9 hB9 hz9 hk9 hS => ?_)
            obtain ⟨E_32, Fr_33, hG, hP1, hD1, dc_34, ds_35, hLd, hdc_34, hds_35⟩ := hB9
            rw [ht9] at hLd
            refine W_tight (hL0.tr hLd).1 (hL0.tr hLd).2.1 ?_
            clear hL0 hLd
            have hP : va_P (gD g) cl0 ws_31 H1 := by rw [← ht9]; exact hP1
            have hD : va_D A ws_31 := hD1.weaken (fun _ _ _ h => hFc _ h)
            have kf_36 := hw9
            clear hP1 hD1 hz9 hk9 hvm9 ht9 hw9
            generalize H1 = H at hP hS ⊢
            have aa_37 := a_r3_1
            have aa_38 := a_r4_1
            have aa_39 := a_r10_1
            have aa_40 := a_r11_1
            have aa_41 := a_r12_1
            have aa_42 := a_r13_1
            have aa_43 := a_r16_1
            have aa_44 := a_r17_1
            have aa_45 := a_r0_17
            have aa_46 := a_r0_24
            have o_h0 := E_32.1 _ _ o_h0
            have tq_47 : wcP ws_31 h0 (0 + wc) wb wc := wcP_0 hDW hG Fr_33 (by decide) (by decide) (by decide) (by decide) hkW rfl rfl (fun k9 ci9 fs9 h9 c9 e9 => by have w9 := kf_36 _ _ _ h9 c9 e9; omega) tq_25
            refine lv_aload_n hx hb dX11_entryOfWanted_99 rfl (lv_at hl 1 rfl) ?_
            obtain ⟨fs9, hk_48, hq_48⟩ := ((gF.a (F' := [(0, 0), (0, 1)]) Fr_33 (fun _ h => h))) _ _ _ hk_1
            obtain ⟨r0_48, r1_48, r2_48, r3_48, n3_48, r4_48, n4_48, c5_48, c6_48, v7_48, c8_48, c9_48, r10_48, n10_48, r11_48, n11_48, r12_48, n12_48, r13_48, n13_48, r14_48, v15_48, r16_48, n16_48, r17_48, n17_48, rfl, o_r0_48, o_r1_48, o_r2_48, a_r3_48, f4_48, a_r4_48, f6_48, hz_c6_48, o_v7_48, a_r10_48, f10_48, a_r11_48, f12_48, a_r12_48, f14_48, a_r13_48, f16_48, o_r14_48, o_v15_48, a_r16_48, f20_48, a_r17_48, f22_48, f23_48, f24_48, f25_48, f26_48, f27_48, f28_48, -⟩ := (hG.1 _ _ _ _ hk_48).hX11 rfl
            obtain rfl := fe_r (hq_48 0 (by decide))
            have o_r0_1 := o_r0_48
            obtain rfl := fe_r (hq_48 2 (by decide))
            have o_r2_1 := o_r2_48
            obtain rfl := fe_r (hq_48 3 (by decide))
            have hn9 := gI_n hD ((E_32).1 _ _ aa_37) a_r3_48
            subst hn9
            have a_r3_1 := a_r3_48
            obtain rfl := fe_r (hq_48 4 (by decide))
            have hn9 := gI_n hD ((E_32).1 _ _ aa_38) a_r4_48
            subst hn9
            have a_r4_1 := a_r4_48
            obtain rfl := fe_i (hq_48 5 (by decide))
            obtain rfl := fe_q (hq_48 7 (by decide))
            have o_v7_1 := o_v7_48
            obtain rfl := fe_q (hq_48 15 (by decide))
            have o_v15_1 := o_v15_48
            refine va_get (D := gD g) (ci := 10) (v := .ref r4_1) (C := RX11) (T := TX11) (N := 18) hx hb hts inX11 hown hK hP k_1 hk_48 rfl 4 (by decide) (hts _ kw_149) (fun _ h9 => h9) rfl dX11_entryOfWanted_100 ?_
            refine lv_aload_n hx hb dX11_entryOfWanted_103 rfl (lv_at hl 1 rfl) ?_
            refine va_get (D := gD g) (ci := 10) (v := .int c5_1) (C := RX11) (T := TX11) (N := 18) hx hb hts inX11 hown hK hP k_1 hk_48 rfl 5 (by decide) (hts _ kw_114) (fun _ h9 => h9) rfl dX11_entryOfWanted_104 ?_
            refine lv_aload_n hx hb dX11_entryOfWanted_107 rfl (lv_at hl 1 rfl) ?_
            refine va_get (D := gD g) (ci := 10) (v := .ref r0_1) (C := RX11) (T := TX11) (N := 18) hx hb hts inX11 hown hK hP k_1 hk_48 rfl 0 (by decide) (hts _ kw_113) (fun _ h9 => h9) rfl dX11_entryOfWanted_108 ?_
            obtain ⟨fs9, hk_49, hq_49⟩ := ((gF.a (F' := [(0, 0), (0, 1)]) Fr_33 (fun _ h => h))) _ _ _ hk_17
            obtain ⟨r0_49, n0_49, c1_49, rfl, a_r0_49, f1_49, f2_49, f3_49, f4_49, f5_49, -⟩ := (hG.1 _ _ _ _ hk_49).hX0 rfl
            have kq_50 := kf_36 _ _ _ hk_49 _ rfl
            refine va_get (D := gD g) (ci := 0) (v := .int c1_49) (C := RX0) (T := TX0) (N := 2) hx hb hts inX0 hown hK hP k_17 hk_49 rfl 1 (by decide) (hts _ kw_101) (fun _ h9 => h9) rfl dX11_entryOfWanted_111 ?_
            obtain ⟨k_51, f_51, hk_51⟩ := gI_of a_r4_1
            have hC9 : hol ws_31 r4_1 [(10, 4)] := (hol_u hG.u hk_48 (j := 4) rfl a_r4_1 (by decide))
            have hS9 : holS ws_31 r4_1 none := holS_n
            refine va_iast hx hb hK hP hD hS k_51 1 hk_51 rfl (i_in2 (by have e500 : (500 : Int32).toInt = 500 := (by decide); have q_f6_1 := f6_1; have q_f24_1 := f24_1; have q_en_2 := en_2; obtain ⟨u_z_15, q_z_15⟩ := i_add ez_15; have q_wb_26 := wb_26; have q_iv_12 := iv_12; have q_c_16 := i_le c_16; have q_f2_17 := f2_17; have q_f3_17 := f3_17; have q_kq_50 := kq_50; have q_f1_17 := f1_17; have q_f4_17 := f4_17; have q_f5_17 := f5_17; have q_f2_24 := f2_24; have q_f3_24 := f3_24; have q_wb_27 := wb_27; have q_f2_49 := f2_49; have q_f3_49 := f3_49; have q_pw3 := pw3; have q_pwc := pwc; have q_f1_24 := f1_24; have q_f4_24 := f4_24; have q_f5_24 := f5_24; have q_f1_49 := f1_49; have q_f4_49 := f4_49; have q_f5_49 := f5_49; have g_c1_17 := i_rg c1_17; have g_c1_24 := i_rg c1_24; have g_c1_49 := i_rg c1_49; have g_c5_1 := i_rg c5_1; have g_t_11 := i_rg t_11; have g_z_15 := i_rg z_15; omega)) dX11_entryOfWanted_114 (fun H locs hP hD hS => ?_)
            obtain ⟨ws_52, e_ws_52⟩ : ∃ z, z = ws_31.set k_51 (r4_1, .inl (g.cI, n4_1, .inl (upd f_51 (c5_1 : Int32).toNatClampNeg c1_49))) := ⟨_, rfl⟩
            have hP : va_P (gD g) cl0 ws_52 H := by rw [e_ws_52]; exact hP
            have hD : va_D A ws_52 := by rw [e_ws_52]; exact hD
            have E_53 : gE ws_31 ws_52 := gE_ari e_ws_52 hk_51
            have hG : Good g ws_52 := Good_arI e_ws_52 hk_51 hG
            have Fr_54 : gF [] [(10, 4)] none ws_31 ws_52 := gF_ar e_ws_52 hk_51 rfl hC9 hS9
            have pp_55 := Fr_54.pp
            have hk_48 := gset_arO e_ws_52 hk_51 hk_48
            have hk_49 := gset_arO e_ws_52 hk_51 hk_49
            have o_h0 := E_53.1 _ _ o_h0
            have o_r1_48 := E_53.1 _ _ o_r1_48
            have a_r10_48 := E_53.1 _ _ a_r10_48
            have a_r11_48 := E_53.1 _ _ a_r11_48
            have a_r12_48 := E_53.1 _ _ a_r12_48
            have a_r13_48 := E_53.1 _ _ a_r13_48
            have o_r14_48 := E_53.1 _ _ o_r14_48
            have a_r16_48 := E_53.1 _ _ a_r16_48
            have a_r17_48 := E_53.1 _ _ a_r17_48
            have o_r0_1 := E_53.1 _ _ o_r0_1
            have o_r2_1 := E_53.1 _ _ o_r2_1
            have a_r3_1 := E_53.1 _ _ a_r3_1
            have a_r4_1 := E_53.1 _ _ a_r4_1
            have o_v7_1 : ∀ b, v7_1 = some b → gC ws_52 b 9 := fun b h => E_53.1 _ _ (o_v7_1 b h)
            have o_v15_1 : ∀ b, v15_1 = some b → gC ws_52 b 7 := fun b h => E_53.1 _ _ (o_v15_1 b h)
            have a_r0_49 := E_53.1 _ _ a_r0_49
            refine lv_aload_n hx hb dX11_entryOfWanted_115 rfl (lv_at hl 1 rfl) ?_
            refine lv_dup hx hb dX11_entryOfWanted_116 rfl ?_
            refine va_get (D := gD g) (ci := 10) (v := .int c5_1) (C := RX11) (T := TX11) (N := 18) hx hb hts inX11 hown hK hP k_1 hk_48 rfl 5 (by decide) (hts _ kw_114) (fun _ h9 => h9) rfl dX11_entryOfWanted_117 ?_
            refine lv_iload_n hx hb dX11_entryOfWanted_120 rfl (lv_at hl 0 rfl) ?_
            refine lv_iadd hx hb dX11_entryOfWanted_121 ?_
            refine lv_topi (fun z_56 ez_56 => ?_)
            have tq_57 : wcP ws_52 h0 (0 + wc) wb wc := wcP_mo (Fr_54) (by decide) (by decide) (by decide) (by decide) (by decide) tq_47
            have hkE := hk_48
            have hDE := hD
            have tq_58 : enP g ws_52 h0 := enP_mo ((gF.tr (gF.mo (F' := [(0, 0), (0, 1)]) (C' := [(0, 0), (6, 0), (10, 4)]) (S' := none) Fr_33 (fun _ h => h) (by decide) (Or.inl rfl)) (gF.mo (F' := [(0, 0), (0, 1)]) (C' := [(0, 0), (6, 0), (10, 4)]) (S' := none) Fr_54 (fun _ h => absurd h List.not_mem_nil) (by decide) (Or.inr rfl)))) (by decide) (by decide) (by decide) tq_23
            have hV9 : okv ws_52 10 5 (.int z_56) := okv_i
            refine va_put (D := gD g) (ci := 10) (v := .int z_56) (ty := .int) (C := RX11) (T := TX11) (N := 18) hx hb hts inX11 tyX11 tyX11_ok nmX11 hown hK hP hD hS k_1 hk_48 rfl 5 (by decide) (hts _ kw_114) (fun _ h9 => h9) rfl (by decide +kernel) rfl rfl (Nat.le_of_ble_eq_true rfl) dX11_entryOfWanted_122 (fun H locs hP hD hS => ?_)
            have hi_59 : invX11 g ws_52 h0 [.ref r0_1, .ref r1_48, .ref r2_1, .ref r3_1, .ref r4_1, .int z_56, .int c6_48, va_rf v7_1, .int c8_48, .int c9_48, .ref r10_48, .ref r11_48, .ref r12_48, .ref r13_48, .ref r14_48, va_rf v15_1, .ref r16_48, .ref r17_48] := ⟨r0_1, r1_48, r2_1, r3_1, (n3_1), r4_1, (n4_1), (z_56), (c6_48), v7_1, (c8_48), (c9_48), r10_48, (n10_48), r11_48, (n11_48), r12_48, (n12_48), r13_48, (n13_48), r14_48, v15_1, r16_48, (n16_48), r17_48, (n17_48), rfl, o_r0_1, o_r1_48, o_r2_1, a_r3_1, f4_48, a_r4_1, f6_48, hz_c6_48, o_v7_1, a_r10_48, f10_48, a_r11_48, f12_48, a_r12_48, f14_48, a_r13_48, f16_48, o_r14_48, o_v15_1, a_r16_48, f20_48, a_r17_48, f22_48, f23_48, f24_48, f25_48, f26_48, f27_48, f28_48, trivial⟩
            obtain ⟨ws_60, e_ws_60⟩ : ∃ z, z = ws_52.set k_1 (h0, .inr (10, [.ref r0_1, .ref r1_48, .ref r2_1, .ref r3_1, .ref r4_1, .int z_56, .int c6_48, va_rf v7_1, .int c8_48, .int c9_48, .ref r10_48, .ref r11_48, .ref r12_48, .ref r13_48, .ref r14_48, va_rf v15_1, .ref r16_48, .ref r17_48])) := ⟨_, rfl⟩
            have hP : va_P (gD g) cl0 ws_60 H := by rw [e_ws_60]; exact hP
            have hD : va_D A ws_60 := by rw [e_ws_60]; exact hD
            have E_61 : gE ws_52 ws_60 := gE_set e_ws_60 hk_48 (cw_o (fi := 5) (v := .int z_56) rfl (by decide))
            have hG : Good g ws_60 := Good_set (fi := 5) (v := .int z_56) e_ws_60 hk_48 E_61 rfl hV9 hG (ivX11 hi_59)
            have Fr_62 : gF [(10, 5)] [] (some h0) ws_52 ws_60 := gF_put (fi := 5) (v := .int z_56) e_ws_60 hk_48 rfl (by decide)
            have pp_63 := Fr_62.pp
            have hkN := gset_self e_ws_60 hk_48
            have hk_49 := gset_ob e_ws_60 hk_48 hk_49 (by decide)
            have hk_48 := hkN
            have o_h0 := E_61.1 _ _ o_h0
            have o_r1_48 := E_61.1 _ _ o_r1_48
            have a_r10_48 := E_61.1 _ _ a_r10_48
            have a_r11_48 := E_61.1 _ _ a_r11_48
            have a_r12_48 := E_61.1 _ _ a_r12_48
            have a_r13_48 := E_61.1 _ _ a_r13_48
            have o_r14_48 := E_61.1 _ _ o_r14_48
            have a_r16_48 := E_61.1 _ _ a_r16_48
            have a_r17_48 := E_61.1 _ _ a_r17_48
            have o_r0_1 := E_61.1 _ _ o_r0_1
            have o_r2_1 := E_61.1 _ _ o_r2_1
            have a_r3_1 := E_61.1 _ _ a_r3_1
            have a_r4_1 := E_61.1 _ _ a_r4_1
            have o_v7_1 : ∀ b, v7_1 = some b → gC ws_60 b 9 := fun b h => E_61.1 _ _ (o_v7_1 b h)
            have o_v15_1 : ∀ b, v15_1 = some b → gC ws_60 b 7 := fun b h => E_61.1 _ _ (o_v15_1 b h)
            have a_r0_49 := E_61.1 _ _ a_r0_49
            have wq_64 := wcP_pc e_ws_60 hDE hkE rfl (p := c5_1) rfl (by have e500 : (500 : Int32).toInt = 500 := (by decide); have q_en_2 := en_2; obtain ⟨u_z_15, q_z_15⟩ := i_add ez_15; have q_wb_26 := wb_26; obtain ⟨u_z_56, q_z_56⟩ := i_add ez_56; have q_iv_12 := iv_12; have q_c_16 := i_le c_16; have q_f2_17 := f2_17; have q_f3_17 := f3_17; have q_kq_50 := kq_50; have q_f1_17 := f1_17; have q_f4_17 := f4_17; have q_f5_17 := f5_17; have q_f2_24 := f2_24; have q_f3_24 := f3_24; have q_wb_27 := wb_27; have q_f2_49 := f2_49; have q_f3_49 := f3_49; have q_pw3 := pw3; have q_pwc := pwc; have q_f1_24 := f1_24; have q_f4_24 := f4_24; have q_f5_24 := f5_24; have q_f1_49 := f1_49; have q_f4_49 := f4_49; have q_f5_49 := f5_49; have g_c1_17 := i_rg c1_17; have g_c1_24 := i_rg c1_24; have g_c1_49 := i_rg c1_49; have g_c5_1 := i_rg c5_1; have g_t_11 := i_rg t_11; have g_z_15 := i_rg z_15; have g_z_56 := i_rg z_56; omega) tq_57
            have tq_65 : wcP ws_60 h0 0 wb wc := wcP_le (by omega) (Int.le_refl _) (Int.le_refl _) wq_64
            have tq_66 : enP g ws_60 h0 := enP_put e_ws_60 hDE hkE rfl (by have e500 : (500 : Int32).toInt = 500 := (by decide); obtain ⟨u_z_56, q_z_56⟩ := i_add ez_56; have q_en_2 := en_2; have q_iv_12 := iv_12; obtain ⟨u_z_15, q_z_15⟩ := i_add ez_15; have q_wb_26 := wb_26; have q_c_16 := i_le c_16; have q_f2_17 := f2_17; have q_f3_17 := f3_17; have q_kq_50 := kq_50; have q_f1_17 := f1_17; have q_f4_17 := f4_17; have q_f5_17 := f5_17; have q_f2_24 := f2_24; have q_f3_24 := f3_24; have q_wb_27 := wb_27; have q_f2_49 := f2_49; have q_f3_49 := f3_49; have g_c1_17 := i_rg c1_17; have g_c1_24 := i_rg c1_24; have g_c1_49 := i_rg c1_49; have g_c5_1 := i_rg c5_1; have g_t_11 := i_rg t_11; have g_z_15 := i_rg z_15; have g_z_56 := i_rg z_56; omega) tq_58
            refine lv_iload_n hx hb dX11_entryOfWanted_125 rfl (lv_at hl 0 rfl) ?_
            refine lv_iconst (v := 2) hx hb dX11_entryOfWanted_126 (by decide) ?_
            have J_166 : ∀ (dc_166_4 : Nat) (ds_166_4 : Nat) (ws_67 : va_W) (H : Heap) (locs : List Loc) (ls : Array Slot), gE ws_60 ws_67 → gF [] [(10, 3), (10, 4)] none ws_60 ws_67 → Good g ws_67 → dc_166_4 + PC ws_67 ≤ PC ws + (0) → ds_166_4 + PS ws_67 ≤ PS ws + (0) → enP g ws_67 h0 → va_P (gD g) cl0 ws_67 H → va_D A ws_67 → va_S A s.heap H locs → lv_has ls 2 [(0, .ref h0), (1, .int t_11)] → W p l e (headSpec (wt yX11_entryOfWanted cX11_entryOfWanted 2 (some .int)) ({ frames := 3, cells := PC ws + (0), slots := PS ws + (0), locals := 85 })).room s m ([.ref h0] : List Value).toArray below meth c H locs (dc_166_4) (ds_166_4) (MQ below (va_Qi (fun (r : Int32) (u9 : va_W) => (True) ∧ (enP g u9 h0) ∧ (wcP u9 h0 0 (wb) (wc))) (gQ2 g [(0, 0), (0, 1), (10, 5), (10, 6)] [(0, 0), (6, 0), (10, 3), (10, 4)] none A ws s.heap (0) (0)) A) ([.ref h0] : List Value).toArray s (PC ws + (0)) (PS ws + (0)) A) (F0 m 166 ls []) := by
              intro dc_166_4 ds_166_4 ws_67 H locs ls  E_68 Fr_69 hG hc9 hs9 jx_166_0 hP hD hS hl
              have aa_70 := a_r3_1
              have aa_71 := a_r4_1
              have aa_72 := a_r10_48
              have aa_73 := a_r11_48
              have aa_74 := a_r12_48
              have aa_75 := a_r13_48
              have aa_76 := a_r16_48
              have aa_77 := a_r17_48
              have aa_78 := a_r0_49
              have o_h0 := E_68.1 _ _ o_h0
              refine lv_aload_n hx hb dX11_entryOfWanted_166 rfl (lv_at hl 0 rfl) ?_
              obtain ⟨fs9, hk_79, hq_79⟩ := ((gF.a (F' := []) Fr_69 (fun _ h => h))) _ _ _ hk_48
              obtain ⟨r0_79, r1_79, r2_79, r3_79, n3_79, r4_79, n4_79, c5_79, c6_79, v7_79, c8_79, c9_79, r10_79, n10_79, r11_79, n11_79, r12_79, n12_79, r13_79, n13_79, r14_79, v15_79, r16_79, n16_79, r17_79, n17_79, rfl, o_r0_79, o_r1_79, o_r2_79, a_r3_79, f4_79, a_r4_79, f6_79, hz_c6_79, o_v7_79, a_r10_79, f10_79, a_r11_79, f12_79, a_r12_79, f14_79, a_r13_79, f16_79, o_r14_79, o_v15_79, a_r16_79, f20_79, a_r17_79, f22_79, f23_79, f24_79, f25_79, f26_79, f27_79, f28_79, -⟩ := (hG.1 _ _ _ _ hk_79).hX11 rfl
              obtain rfl := fe_r (hq_79 0 (by decide))
              have o_r0_1 := o_r0_79
              obtain rfl := fe_r (hq_79 2 (by decide))
              have o_r2_1 := o_r2_79
              obtain rfl := fe_r (hq_79 3 (by decide))
              have hn9 := gI_n hD ((E_68).1 _ _ aa_70) a_r3_79
              subst hn9
              have a_r3_1 := a_r3_79
              obtain rfl := fe_r (hq_79 4 (by decide))
              have hn9 := gI_n hD ((E_68).1 _ _ aa_71) a_r4_79
              subst hn9
              have a_r4_1 := a_r4_79
              obtain rfl := fe_i (hq_79 5 (by decide))
              obtain rfl := fe_q (hq_79 7 (by decide))
              have o_v7_1 := o_v7_79
              obtain rfl := fe_q (hq_79 15 (by decide))
              have o_v15_1 := o_v15_79
              refine va_get (D := gD g) (ci := 10) (v := .int z_56) (C := RX11) (T := TX11) (N := 18) hx hb hts inX11 hown hK hP k_1 hk_79 rfl 5 (by decide) (hts _ kw_114) (fun _ h9 => h9) rfl dX11_entryOfWanted_167 ?_
              refine lv_iload_n hx hb dX11_entryOfWanted_170 rfl (lv_at hl 1 rfl) ?_
              refine lv_isub hx hb dX11_entryOfWanted_171 ?_
              refine lv_topi (fun z_80 ez_80 => ?_)
              refine W_led (fun hLd => ?_)
              have hcl : dc_166_4 + PC ws_67 ≤ PC ws + (0) := (by omega)
              have hsl : ds_166_4 + PS ws_67 ≤ PS ws + (0) := (by omega)
              refine W.widen (k := PC ws + (0)) (n := PS ws + (0)) (by omega) (by omega) ?_
              have tq_81 : wcP ws_67 h0 0 wb wc := wcP_mo (Fr_69) (by decide) (by decide) (by decide) (by decide) (by decide) tq_65
              have tq_82 : wcP ws_67 h0 0 (wb) (wc) := wcP_le (by have e0 : (0 : Int32).toInt = 0 := (by decide); have e09 : (0 : Int32).toInt = 0 := rfl; omega) (by have q_pwc := pwc; have q_pw3 := pw3; have q_wb_27 := wb_27; have q_f2_24 := f2_24; have q_f3_24 := f3_24; have q_kq_50 := kq_50; have q_f2_17 := f2_17; have q_f3_17 := f3_17; have q_f1_24 := f1_24; have q_f4_24 := f4_24; have q_f5_24 := f5_24; have q_wb_26 := wb_26; have q_f2_49 := f2_49; have q_f3_49 := f3_49; have g_c1_17 := i_rg c1_17; have g_c1_24 := i_rg c1_24; have g_c1_49 := i_rg c1_49; have g_c5_1 := i_rg c5_1; have e09 : (0 : Int32).toInt = 0 := rfl; omega) (by have q_pw3 := pw3; have q_pwc := pwc; have q_wb_27 := wb_27; have q_f2_24 := f2_24; have q_f3_24 := f3_24; have q_kq_50 := kq_50; have q_f2_17 := f2_17; have q_f3_17 := f3_17; have q_f1_24 := f1_24; have q_f4_24 := f4_24; have q_f5_24 := f5_24; have q_wb_26 := wb_26; have q_f2_49 := f2_49; have q_f3_49 := f3_49; have q_en_2 := en_2; obtain ⟨u_z_15, q_z_15⟩ := i_add ez_15; have q_f1_17 := f1_17; have q_f4_17 := f4_17; have q_f5_17 := f5_17; have q_f1_49 := f1_49; have q_f4_49 := f4_49; have q_f5_49 := f5_49; obtain ⟨u_z_56, q_z_56⟩ := i_add ez_56; have g_c1_17 := i_rg c1_17; have g_c1_24 := i_rg c1_24; have g_c1_49 := i_rg c1_49; have g_c5_1 := i_rg c5_1; have g_t_11 := i_rg t_11; have g_z_15 := i_rg z_15; have g_z_56 := i_rg z_56; have e09 : (0 : Int32).toInt = 0 := rfl; omega) tq_81
              exact W.iret (v := z_80) hx hb hr (fun t9 ht9 hW9 => ⟨⟨_, ws_67, rfl, ⟨trivial, jx_166_0, tq_82⟩, ⟨(E_20.tr (E_32.tr (E_53.tr (E_61.tr E_68)))), (gF.tr (gF.mo (F' := [(0, 0), (0, 1), (10, 5), (10, 6)]) (C' := [(0, 0), (6, 0), (10, 3), (10, 4)]) (S' := none) Fr_21 (fun _ h => absurd h List.not_mem_nil) (by decide) (Or.inr rfl)) (gF.tr (gF.mo (F' := [(0, 0), (0, 1), (10, 5), (10, 6)]) (C' := [(0, 0), (6, 0), (10, 3), (10, 4)]) (S' := none) Fr_33 (by decide) (by decide) (Or.inl rfl)) (gF.tr (gF.mo (F' := [(0, 0), (0, 1), (10, 5), (10, 6)]) (C' := [(0, 0), (6, 0), (10, 3), (10, 4)]) (S' := none) Fr_54 (fun _ h => absurd h List.not_mem_nil) (by decide) (Or.inr rfl)) (gF.tr (gF.mo (F' := [(0, 0), (0, 1), (10, 5), (10, 6)]) (C' := [(0, 0), (6, 0), (10, 3), (10, 4)]) (S' := none) Fr_62 (by decide) (fun _ h => absurd h List.not_mem_nil) (Or.inl rfl)) (gF.mo (F' := [(0, 0), (0, 1), (10, 5), (10, 6)]) (C' := [(0, 0), (6, 0), (10, 3), (10, 4)]) (S' := none) Fr_69 (fun _ h => absurd h List.not_mem_nil) (by decide) (Or.inr rfl)))))), hG, by rw [ht9]; exact hP, hD, _, _, by rw [ht9]; exact hLd, hcl, hsl⟩⟩, hS.F ht9⟩) hS.2.2 dX11_entryOfWanted_172
            refine lv_icmp_ne (tgt := 166) hx hb dX11_entryOfWanted_127 (by decide) (fun c_83 => ?_) (fun c_83 => ?_)
            · exact J_166 (dc_52_3 + dc_34) (ds_52_3 + ds_35) ws_60 H locs ls (gE.rf) (gF.rf) hG (by omega) (by omega) tq_66 hP hD hS (lv_sub hl [1, 0] rfl)
            · refine lv_aload_n hx hb dX11_entryOfWanted_130 rfl (lv_at hl 1 rfl) ?_
              refine va_get (D := gD g) (ci := 10) (v := .ref r3_1) (C := RX11) (T := TX11) (N := 18) hx hb hts inX11 hown hK hP k_1 hk_48 rfl 3 (by decide) (hts _ kw_145) (fun _ h9 => h9) rfl dX11_entryOfWanted_131 ?_
              refine lv_aload_n hx hb dX11_entryOfWanted_134 rfl (lv_at hl 1 rfl) ?_
              refine va_get (D := gD g) (ci := 10) (v := .int z_56) (C := RX11) (T := TX11) (N := 18) hx hb hts inX11 hown hK hP k_1 hk_48 rfl 5 (by decide) (hts _ kw_114) (fun _ h9 => h9) rfl dX11_entryOfWanted_135 ?_
              refine lv_iconst (v := 1) hx hb dX11_entryOfWanted_138 (by decide) ?_
              refine lv_isub hx hb dX11_entryOfWanted_139 ?_
              refine lv_topi (fun z_84 ez_84 => ?_)
              refine lv_aload_n hx hb dX11_entryOfWanted_140 rfl (lv_at hl 1 rfl) ?_
              refine va_get (D := gD g) (ci := 10) (v := .ref r0_1) (C := RX11) (T := TX11) (N := 18) hx hb hts inX11 hown hK hP k_1 hk_48 rfl 0 (by decide) (hts _ kw_113) (fun _ h9 => h9) rfl dX11_entryOfWanted_141 ?_
              refine va_get (D := gD g) (ci := 0) (v := .int c1_49) (C := RX0) (T := TX0) (N := 2) hx hb hts inX0 hown hK hP k_17 hk_49 rfl 1 (by decide) (hts _ kw_101) (fun _ h9 => h9) rfl dX11_entryOfWanted_144 ?_
              obtain ⟨k_85, f_85, hk_85⟩ := gI_of a_r3_1
              have hkE := hk_48
              have hfE := hk_85
              have hDE := hD
              have hC9 : hol ws_60 r3_1 [(10, 3)] := (hol_u hG.u hk_48 (j := 3) rfl a_r3_1 (by decide))
              have hS9 : holS ws_60 r3_1 none := holS_n
              refine va_iast hx hb hK hP hD hS k_85 1 hk_85 rfl (i_in2 (by have e1 : (1 : Int32).toInt = 1 := (by decide); have e2 : (2 : Int32).toInt = 2 := (by decide); have e500 : (500 : Int32).toInt = 500 := (by decide); have q_f4_1 := f4_1; have q_f23_1 := f23_1; obtain ⟨u_z_84, q_z_84⟩ := i_sub ez_84; obtain ⟨u_z_56, q_z_56⟩ := i_add ez_56; have q_en_2 := en_2; have q_iv_12 := iv_12; obtain ⟨u_z_15, q_z_15⟩ := i_add ez_15; have q_wb_26 := wb_26; have q_c_83 := i_eq c_83; have q_c_16 := i_le c_16; have q_f2_17 := f2_17; have q_f3_17 := f3_17; have q_kq_50 := kq_50; have g_c1_17 := i_rg c1_17; have g_c1_24 := i_rg c1_24; have g_c1_49 := i_rg c1_49; have g_c5_1 := i_rg c5_1; have g_t_11 := i_rg t_11; have g_z_15 := i_rg z_15; have g_z_56 := i_rg z_56; have g_z_84 := i_rg z_84; omega)) dX11_entryOfWanted_147 (fun H locs hP hD hS => ?_)
              obtain ⟨ws_86, e_ws_86⟩ : ∃ z, z = ws_60.set k_85 (r3_1, .inl (g.cI, n3_1, .inl (upd f_85 (z_84 : Int32).toNatClampNeg c1_49))) := ⟨_, rfl⟩
              have hP : va_P (gD g) cl0 ws_86 H := by rw [e_ws_86]; exact hP
              have hD : va_D A ws_86 := by rw [e_ws_86]; exact hD
              have E_87 : gE ws_60 ws_86 := gE_ari e_ws_86 hk_85
              have hG : Good g ws_86 := Good_arI e_ws_86 hk_85 hG
              have Fr_88 : gF [] [(10, 3)] none ws_60 ws_86 := gF_ar e_ws_86 hk_85 rfl hC9 hS9
              have pp_89 := Fr_88.pp
              have hk_48 := gset_arO e_ws_86 hk_85 hk_48
              have hk_49 := gset_arO e_ws_86 hk_85 hk_49
              have o_h0 := E_87.1 _ _ o_h0
              have o_r1_48 := E_87.1 _ _ o_r1_48
              have a_r10_48 := E_87.1 _ _ a_r10_48
              have a_r11_48 := E_87.1 _ _ a_r11_48
              have a_r12_48 := E_87.1 _ _ a_r12_48
              have a_r13_48 := E_87.1 _ _ a_r13_48
              have o_r14_48 := E_87.1 _ _ o_r14_48
              have a_r16_48 := E_87.1 _ _ a_r16_48
              have a_r17_48 := E_87.1 _ _ a_r17_48
              have o_r0_1 := E_87.1 _ _ o_r0_1
              have o_r2_1 := E_87.1 _ _ o_r2_1
              have a_r3_1 := E_87.1 _ _ a_r3_1
              have a_r4_1 := E_87.1 _ _ a_r4_1
              have o_v7_1 : ∀ b, v7_1 = some b → gC ws_86 b 9 := fun b h => E_87.1 _ _ (o_v7_1 b h)
              have o_v15_1 : ∀ b, v15_1 = some b → gC ws_86 b 7 := fun b h => E_87.1 _ _ (o_v15_1 b h)
              have a_r0_49 := E_87.1 _ _ a_r0_49
              have tq_90 : enP g ws_86 h0 := enP_w e_ws_86 hDE hkE rfl hfE (by have e1 : (1 : Int32).toInt = 1 := (by decide); have e2 : (2 : Int32).toInt = 2 := (by decide); have e500 : (500 : Int32).toInt = 500 := (by decide); have q_f2_49 := f2_49; have q_f3_49 := f3_49; have q_kq_50 := kq_50; have q_f2_17 := f2_17; have q_f3_17 := f3_17; have q_f2_24 := f2_24; have q_f3_24 := f3_24; have q_wb_26 := wb_26; have q_wb_27 := wb_27; have q_f1_49 := f1_49; have q_f4_49 := f4_49; have q_f5_49 := f5_49; have q_pw3 := pw3; have q_pwc := pwc; have q_en_2 := en_2; obtain ⟨u_z_15, q_z_15⟩ := i_add ez_15; have q_f1_17 := f1_17; have q_f4_17 := f4_17; have q_f5_17 := f5_17; have q_f1_24 := f1_24; have q_f4_24 := f4_24; have q_f5_24 := f5_24; obtain ⟨u_z_56, q_z_56⟩ := i_add ez_56; have q_iv_12 := iv_12; have q_c_16 := i_le c_16; have q_c_83 := i_eq c_83; obtain ⟨u_z_84, q_z_84⟩ := i_sub ez_84; have g_c1_17 := i_rg c1_17; have g_c1_24 := i_rg c1_24; have g_c1_49 := i_rg c1_49; have g_c5_1 := i_rg c5_1; have g_t_11 := i_rg t_11; have g_z_15 := i_rg z_15; have g_z_56 := i_rg z_56; have g_z_84 := i_rg z_84; omega) tq_66
              refine lv_aload_n hx hb dX11_entryOfWanted_148 rfl (lv_at hl 1 rfl) ?_
              refine va_get (D := gD g) (ci := 10) (v := .ref r4_1) (C := RX11) (T := TX11) (N := 18) hx hb hts inX11 hown hK hP k_1 hk_48 rfl 4 (by decide) (hts _ kw_149) (fun _ h9 => h9) rfl dX11_entryOfWanted_149 ?_
              refine lv_aload_n hx hb dX11_entryOfWanted_152 rfl (lv_at hl 1 rfl) ?_
              refine va_get (D := gD g) (ci := 10) (v := .int z_56) (C := RX11) (T := TX11) (N := 18) hx hb hts inX11 hown hK hP k_1 hk_48 rfl 5 (by decide) (hts _ kw_114) (fun _ h9 => h9) rfl dX11_entryOfWanted_153 ?_
              refine lv_iconst (v := 1) hx hb dX11_entryOfWanted_156 (by decide) ?_
              refine lv_isub hx hb dX11_entryOfWanted_157 ?_
              refine lv_topi (fun z_91 ez_91 => ?_)
              refine lv_aload_n hx hb dX11_entryOfWanted_158 rfl (lv_at hl 1 rfl) ?_
              refine va_get (D := gD g) (ci := 10) (v := .ref r0_1) (C := RX11) (T := TX11) (N := 18) hx hb hts inX11 hown hK hP k_1 hk_48 rfl 0 (by decide) (hts _ kw_113) (fun _ h9 => h9) rfl dX11_entryOfWanted_159 ?_
              refine va_get (D := gD g) (ci := 0) (v := .int c1_49) (C := RX0) (T := TX0) (N := 2) hx hb hts inX0 hown hK hP k_17 hk_49 rfl 1 (by decide) (hts _ kw_101) (fun _ h9 => h9) rfl dX11_entryOfWanted_162 ?_
              obtain ⟨k_92, f_92, hk_92⟩ := gI_of a_r4_1
              have hC9 : hol ws_86 r4_1 [(10, 4)] := (hol_u hG.u hk_48 (j := 4) rfl a_r4_1 (by decide))
              have hS9 : holS ws_86 r4_1 none := holS_n
              refine va_iast hx hb hK hP hD hS k_92 1 hk_92 rfl (i_in2 (by have e1 : (1 : Int32).toInt = 1 := (by decide); have e2 : (2 : Int32).toInt = 2 := (by decide); have e500 : (500 : Int32).toInt = 500 := (by decide); have q_f6_1 := f6_1; have q_f24_1 := f24_1; obtain ⟨u_z_91, q_z_91⟩ := i_sub ez_91; obtain ⟨u_z_56, q_z_56⟩ := i_add ez_56; obtain ⟨u_z_84, q_z_84⟩ := i_sub ez_84; have q_en_2 := en_2; have q_iv_12 := iv_12; obtain ⟨u_z_15, q_z_15⟩ := i_add ez_15; have q_wb_26 := wb_26; have q_c_83 := i_eq c_83; have q_c_16 := i_le c_16; have q_f2_17 := f2_17; have q_f3_17 := f3_17; have q_kq_50 := kq_50; have g_c1_17 := i_rg c1_17; have g_c1_24 := i_rg c1_24; have g_c1_49 := i_rg c1_49; have g_c5_1 := i_rg c5_1; have g_t_11 := i_rg t_11; have g_z_15 := i_rg z_15; have g_z_56 := i_rg z_56; have g_z_84 := i_rg z_84; have g_z_91 := i_rg z_91; omega)) dX11_entryOfWanted_165 (fun H locs hP hD hS => ?_)
              obtain ⟨ws_93, e_ws_93⟩ : ∃ z, z = ws_86.set k_92 (r4_1, .inl (g.cI, n4_1, .inl (upd f_92 (z_91 : Int32).toNatClampNeg c1_49))) := ⟨_, rfl⟩
              have hP : va_P (gD g) cl0 ws_93 H := by rw [e_ws_93]; exact hP
              have hD : va_D A ws_93 := by rw [e_ws_93]; exact hD
              have E_94 : gE ws_86 ws_93 := gE_ari e_ws_93 hk_92
              have hG : Good g ws_93 := Good_arI e_ws_93 hk_92 hG
              have Fr_95 : gF [] [(10, 4)] none ws_86 ws_93 := gF_ar e_ws_93 hk_92 rfl hC9 hS9
              have pp_96 := Fr_95.pp
              have hk_48 := gset_arO e_ws_93 hk_92 hk_48
              have hk_49 := gset_arO e_ws_93 hk_92 hk_49
              have o_h0 := E_94.1 _ _ o_h0
              have o_r1_48 := E_94.1 _ _ o_r1_48
              have a_r10_48 := E_94.1 _ _ a_r10_48
              have a_r11_48 := E_94.1 _ _ a_r11_48
              have a_r12_48 := E_94.1 _ _ a_r12_48
              have a_r13_48 := E_94.1 _ _ a_r13_48
              have o_r14_48 := E_94.1 _ _ o_r14_48
              have a_r16_48 := E_94.1 _ _ a_r16_48
              have a_r17_48 := E_94.1 _ _ a_r17_48
              have o_r0_1 := E_94.1 _ _ o_r0_1
              have o_r2_1 := E_94.1 _ _ o_r2_1
              have a_r3_1 := E_94.1 _ _ a_r3_1
              have a_r4_1 := E_94.1 _ _ a_r4_1
              have o_v7_1 : ∀ b, v7_1 = some b → gC ws_93 b 9 := fun b h => E_94.1 _ _ (o_v7_1 b h)
              have o_v15_1 : ∀ b, v15_1 = some b → gC ws_93 b 7 := fun b h => E_94.1 _ _ (o_v15_1 b h)
              have a_r0_49 := E_94.1 _ _ a_r0_49
              have tq_97 : enP g ws_93 h0 := enP_mo (Fr_95) (by decide) (by decide) (by decide) tq_90
              exact J_166 (dc_52_3 + dc_34) (ds_52_3 + ds_35) ws_93 H locs ls ((E_87.tr E_94)) ((gF.tr (gF.mo (F' := []) (C' := [(10, 3), (10, 4)]) (S' := none) Fr_88 (fun _ h => h) (by decide) (Or.inr rfl)) (gF.mo (F' := []) (C' := [(10, 3), (10, 4)]) (S' := none) Fr_95 (fun _ h => h) (by decide) (Or.inr rfl)))) hG (by omega) (by omega) tq_97 hP hD hS (lv_sub hl [1, 0] rfl)
          · refine lv_aload_n hx hb dX11_entryOfWanted_65 rfl (lv_at hl 1 rfl) ?_
            refine lv_iconst (v := 1) hx hb dX11_entryOfWanted_66 (by decide) ?_
            have hV9 : okv ws 10 6 (.int 1) := okv_i
            refine va_put (D := gD g) (ci := 10) (v := .int 1) (ty := .boolean) (C := RX11) (T := TX11) (N := 18) hx hb hts inX11 tyX11 tyX11_ok nmX11 hown hK hP hD hS k_1 hk_1 rfl 6 (by decide) (hts _ kw_115) (fun _ h9 => h9) rfl (by decide +kernel) rfl rfl (Nat.le_of_ble_eq_true rfl) dX11_entryOfWanted_67 (fun H locs hP hD hS => ?_)
            have hi_98 : invX11 g ws h0 [.ref r0_1, .ref r1_1, .ref r2_1, .ref r3_1, .ref r4_1, .int c5_1, .int 1, va_rf v7_1, .int c8_1, .int c9_1, .ref r10_1, .ref r11_1, .ref r12_1, .ref r13_1, .ref r14_1, va_rf v15_1, .ref r16_1, .ref r17_1] := ⟨r0_1, r1_1, r2_1, r3_1, (n3_1), r4_1, (n4_1), (c5_1), (1), v7_1, (c8_1), (c9_1), r10_1, (n10_1), r11_1, (n11_1), r12_1, (n12_1), r13_1, (n13_1), r14_1, v15_1, r16_1, (n16_1), r17_1, (n17_1), rfl, o_r0_1, o_r1_1, o_r2_1, a_r3_1, f4_1, a_r4_1, f6_1, (Or.inr rfl), o_v7_1, a_r10_1, f10_1, a_r11_1, f12_1, a_r12_1, f14_1, a_r13_1, f16_1, o_r14_1, o_v15_1, a_r16_1, f20_1, a_r17_1, f22_1, f23_1, f24_1, f25_1, f26_1, f27_1, f28_1, trivial⟩
            obtain ⟨ws_99, e_ws_99⟩ : ∃ z, z = ws.set k_1 (h0, .inr (10, [.ref r0_1, .ref r1_1, .ref r2_1, .ref r3_1, .ref r4_1, .int c5_1, .int 1, va_rf v7_1, .int c8_1, .int c9_1, .ref r10_1, .ref r11_1, .ref r12_1, .ref r13_1, .ref r14_1, va_rf v15_1, .ref r16_1, .ref r17_1])) := ⟨_, rfl⟩
            have hP : va_P (gD g) cl0 ws_99 H := by rw [e_ws_99]; exact hP
            have hD : va_D A ws_99 := by rw [e_ws_99]; exact hD
            have E_100 : gE ws ws_99 := gE_set e_ws_99 hk_1 (cw_o (fi := 6) (v := .int 1) rfl (by decide))
            have hG : Good g ws_99 := Good_set (fi := 6) (v := .int 1) e_ws_99 hk_1 E_100 rfl hV9 hG (ivX11 hi_98)
            have Fr_101 : gF [(10, 6)] [] (some h0) ws ws_99 := gF_put (fi := 6) (v := .int 1) e_ws_99 hk_1 rfl (by decide)
            have pp_102 := Fr_101.pp
            have hkN := gset_self e_ws_99 hk_1
            have hk_1 := hkN
            have o_h0 := E_100.1 _ _ o_h0
            have o_r0_1 := E_100.1 _ _ o_r0_1
            have o_r1_1 := E_100.1 _ _ o_r1_1
            have o_r2_1 := E_100.1 _ _ o_r2_1
            have a_r3_1 := E_100.1 _ _ a_r3_1
            have a_r4_1 := E_100.1 _ _ a_r4_1
            have o_v7_1 : ∀ b, v7_1 = some b → gC ws_99 b 9 := fun b h => E_100.1 _ _ (o_v7_1 b h)
            have a_r10_1 := E_100.1 _ _ a_r10_1
            have a_r11_1 := E_100.1 _ _ a_r11_1
            have a_r12_1 := E_100.1 _ _ a_r12_1
            have a_r13_1 := E_100.1 _ _ a_r13_1
            have o_r14_1 := E_100.1 _ _ o_r14_1
            have o_v15_1 : ∀ b, v15_1 = some b → gC ws_99 b 7 := fun b h => E_100.1 _ _ (o_v15_1 b h)
            have a_r16_1 := E_100.1 _ _ a_r16_1
            have a_r17_1 := E_100.1 _ _ a_r17_1
            refine lv_iconst (v := 0) hx hb dX11_entryOfWanted_70 (by decide) ?_
            refine W_led (fun hLd => ?_)
            have hcl : dc_52_3 + PC ws_99 ≤ PC ws + (0) := (by omega)
            have hsl : ds_52_3 + PS ws_99 ≤ PS ws + (0) := (by omega)
            refine W.widen (k := PC ws + (0)) (n := PS ws + (0)) (by omega) (by omega) ?_
            have tq_103 : enP g ws_99 h0 := enP_mo ((gF.mo (F' := [(10, 6)]) (C' := []) (S' := none) Fr_101 (fun _ h => h) (fun _ h => h) (Or.inl rfl))) (by decide) (by decide) (by decide) tk0
            have tq_104 : wcP ws_99 h0 0 wb wc := wcP_mo ((gF.mo (F' := [(10, 6)]) (C' := []) (S' := none) Fr_101 (fun _ h => h) (fun _ h => h) (Or.inl rfl))) (by decide) (by decide) (by decide) (by decide) (by decide) tk1
            have tq_105 : wcP ws_99 h0 0 (wb) (wc) := wcP_le (by have e0 : (0 : Int32).toInt = 0 := (by decide); have e09 : (0 : Int32).toInt = 0 := rfl; omega) (by have q_pwc := pwc; have q_pw3 := pw3; have e09 : (0 : Int32).toInt = 0 := rfl; omega) (by have q_pw3 := pw3; have q_pwc := pwc; have e09 : (0 : Int32).toInt = 0 := rfl; omega) tq_104
            exact W.iret (v := 0) hx hb hr (fun t9 ht9 hW9 => ⟨⟨_, ws_99, rfl, ⟨trivial, tq_103, tq_105⟩, ⟨E_100, (gF.mo (F' := [(0, 0), (0, 1), (10, 5), (10, 6)]) (C' := [(0, 0), (6, 0), (10, 3), (10, 4)]) (S' := none) Fr_101 (by decide) (fun _ h => absurd h List.not_mem_nil) (Or.inl rfl)), hG, by rw [ht9]; exact hP, hD, _, _, by rw [ht9]; exact hLd, hcl, hsl⟩⟩, hS.F ht9⟩) hS.2.2 dX11_entryOfWanted_71
        refine lv_icmp_ne (tgt := 51) hx hb dX11_entryOfWanted_44 (by decide) (fun c_106 => ?_) (fun c_106 => ?_)
        · refine lv_iconst (v := 1) hx hb dX11_entryOfWanted_51 (by decide) ?_
          exact J_52 (1) (dc_35_2) (ds_35_2) H locs ls (by have e1 : (1 : Int32).toInt = 1 := (by decide); omega) (by omega) (by omega) hP hD hS (lv_sub hl [0] rfl)
        · refine lv_iconst (v := 2) hx hb dX11_entryOfWanted_47 (by decide) ?_
          refine lv_goto (tgt := 52) hx hb dX11_entryOfWanted_48 (by decide) ?_
          exact J_52 (2) (dc_35_2) (ds_35_2) H locs ls (by have e2 : (2 : Int32).toInt = 2 := (by decide); omega) (by omega) (by omega) hP hD hS (lv_sub hl [0] rfl)
      refine lv_icmp_ge (tgt := 35) hx hb dX11_entryOfWanted_7 (by decide) (fun c_107 => ?_) (fun c_107 => ?_)
      · exact J_35 (dc_2_1) (ds_2_1) H locs ls (by omega) (by omega) hP hD hS (lv_sub hl [0] rfl)
      · refine lv_iload_n hx hb dX11_entryOfWanted_10 rfl (lv_at hl 1 rfl) ?_
        refine lv_aload_n hx hb dX11_entryOfWanted_11 rfl (lv_at hl 0 rfl) ?_
        refine va_get (D := gD g) (ci := 10) (v := .ref r3_1) (C := RX11) (T := TX11) (N := 18) hx hb hts inX11 hown hK hP k_1 hk_1 rfl 3 (by decide) (hts _ kw_145) (fun _ h9 => h9) rfl dX11_entryOfWanted_12 ?_
        obtain ⟨k_108, f_108, hk_108⟩ := gI_of a_r3_1
        obtain ⟨z_109, ez_109⟩ : ∃ z : Int32, Int32.ofNat n3_1 = z := ⟨_, rfl⟩
        refine va_alen (v := z_109) hx hb hK hP k_108 1 hk_108 rfl ez_109 dX11_entryOfWanted_15 ?_
        refine lv_icmp_ge (tgt := 35) hx hb dX11_entryOfWanted_16 (by decide) (fun c_110 => ?_) (fun c_110 => ?_)
        · exact J_35 (dc_2_1) (ds_2_1) H locs ls (by omega) (by omega) hP hD hS (lv_sub hl [0] rfl)
        · refine lv_aload_n hx hb dX11_entryOfWanted_19 rfl (lv_at hl 0 rfl) ?_
          refine lv_iload_n hx hb dX11_entryOfWanted_20 rfl (lv_at hl 1 rfl) ?_
          have hFc := gfree hD hS hA
          refine va_calli (va_runV (As := [.int v1_3]) (rest := []) ⟨hx, hb, hml, hown, hts⟩ (m_X11_isWanted l g H.size ws h0 (v1_3) hG o_h0 tk0 (by have q_iv_4 := iv_4; have q_c_107 := i_nle c_107; have q_c_110 := i_nle c_110; have q_en_2 := en_2; have q_z_109 := i_len ez_109 f4_1; have q_f4_1 := f4_1; have q_f23_1 := f23_1; have g_c5_1 := i_rg c5_1; have g_v1_3 := i_rg v1_3; have g_z_109 := i_rg z_109; omega)) (cwV 1 hts (gd_V kw_146 kw_176 kw_177 kw_83 kw_175) rfl rfl rfl (by decide +kernel) ⟨Nat.le_of_ble_eq_true rfl, Nat.le_of_ble_eq_true rfl⟩) ⟨gblind, va_recv hK hP (ci := 10) (q0 := k_1) rfl hk_1, fun U hU hW9 => gmk hU hW9 hP hK hD hex hE hS hFc⟩ rfl rfl hl.1 rfl (lv_room (Nat.le_of_ble_eq_true rfl)) dX11_entryOfWanted_21 ⟨(show dc_2_1 + 0 ≤ PC ws + (0) from (by omega)), (show ds_2_1 + 0 ≤ PS ws + (0) from (by omega))⟩) hS (fun q _ h => hFc q h) hFc (fun r_111 u9 t9 H1 locs ht9 hvm9 hw9 hB9 hz9 hk9 hS => ?_)
          have hP : va_P (gD g) cl0 ws H1 := by rw [← ht9]; exact hB9.1
          have hz_r_111 : r_111 = 0 ∨ r_111 = 1 := hw9
          clear hB9 hz9 hk9 hvm9 ht9 hw9
          generalize H1 = H at hP hS ⊢
          refine lv_if_eq (tgt := 29) hx hb dX11_entryOfWanted_24 (by decide) (fun c_112 => ?_) (fun c_112 => ?_)
          · obtain ⟨z_113, ez_113⟩ : ∃ z : Int32, v1_3 + Int32.ofInt 1 = z := ⟨_, rfl⟩
            refine lv_iinc (v := z_113) (lv' := [(1, .int z_113), (0, .ref h0)]) hx hb dX11_entryOfWanted_29 hl (k := 1) rfl ez_113 (by decide) rfl (fun ls hl => ?_)
            refine lv_goto (tgt := 2) hx hb dX11_entryOfWanted_32 (by decide) ?_
            exact ih_2 _ (by obtain ⟨u_z_113, q_z_113⟩ := i_iz ez_113 (by decide) (by decide); have q_iv_4 := iv_4; have q_c_107 := i_nle c_107; have q_c_110 := i_nle c_110; have q_en_2 := en_2; have q_z_109 := i_len ez_109 f4_1; have q_f4_1 := f4_1; have q_f23_1 := f23_1; have g_c5_1 := i_rg c5_1; have g_v1_3 := i_rg v1_3; have g_z_109 := i_rg z_109; have g_z_113 := i_rg z_113; omega) (z_113) (dc_2_1) (ds_2_1) H locs ls rfl (by obtain ⟨u_z_113, q_z_113⟩ := i_iz ez_113 (by decide) (by decide); have q_iv_4 := iv_4; have q_c_107 := i_nle c_107; have q_c_110 := i_nle c_110; have q_en_2 := en_2; have q_z_109 := i_len ez_109 f4_1; have q_f4_1 := f4_1; have q_f23_1 := f23_1; have g_c5_1 := i_rg c5_1; have g_v1_3 := i_rg v1_3; have g_z_109 := i_rg z_109; have g_z_113 := i_rg z_113; omega) (by omega) (by omega) hP hD hS (lv_sub hl [1, 0] rfl)
          · refine lv_iload_n hx hb dX11_entryOfWanted_27 rfl (lv_at hl 1 rfl) ?_
            refine W_led (fun hLd => ?_)
            have hcl : dc_2_1 + PC ws ≤ PC ws + (0) := (by omega)
            have hsl : ds_2_1 + PS ws ≤ PS ws + (0) := (by omega)
            refine W.widen (k := PC ws + (0)) (n := PS ws + (0)) (by omega) (by omega) ?_
            have tq_114 : wcP ws h0 0 (wb) (wc) := wcP_le (by have e0 : (0 : Int32).toInt = 0 := (by decide); have e09 : (0 : Int32).toInt = 0 := rfl; omega) (by have q_pwc := pwc; have q_pw3 := pw3; have e09 : (0 : Int32).toInt = 0 := rfl; omega) (by have q_pw3 := pw3; have q_pwc := pwc; have e09 : (0 : Int32).toInt = 0 := rfl; omega) tk1
            exact W.iret (v := v1_3) hx hb hr (fun t9 ht9 hW9 => ⟨⟨_, ws, rfl, ⟨trivial, tk0, tq_114⟩, ⟨gE.rf, gF.rf, hG, by rw [ht9]; exact hP, hD, _, _, by rw [ht9]; exact hLd, hcl, hsl⟩⟩, hS.F ht9⟩) hS.2.2 dX11_entryOfWanted_28
  exact J_2 _ (1) (0) (0) _ _ ls rfl (by have e1 : (1 : Int32).toInt = 1 := (by decide); omega) (by have e0 : (0 : Int32).toInt = 0 := (by decide); omega) (by have e0 : (0 : Int32).toInt = 0 := (by decide); omega) hP hD hS (lv_sub hl [1, 0] rfl)
set_option maxHeartbeats 1000000 in
set_option maxRecDepth 100000 in
theorem m_X11_pointerEntry (l : Launch) (g : Gm) (H0 : Heap) (ws : va_W) (h0 : Nat) (x1 : Int32) (x2 : Int32) (wb : Int) (wc : Int) (hG : Good g ws) (o_h0 : gC ws h0 10) (tk0 : enP g ws h0) (tk1 : wcP ws h0 0 wb wc) (pwc : 0 ≤ wb ∧ 0 ≤ wc ∧ (wb) ≤ 131072 ∧ (3) ≤ 131072) : Met l yX11_pointerEntry (wt yX11_pointerEntry cX11_pointerEntry 3 (some .int)) ({ frames := 4, cells := PC ws + (0), slots := PS ws + (0), locals := 106 }) (va_Pc [.ref h0, .int x1, .int x2] (st_H g H0 ws)) (va_Qi (fun (r : Int32) (u9 : va_W) => (True) ∧ (enP g u9 h0) ∧ (wcP u9 h0 0 (wb) (3))) (gQ2 g [(0, 0), (0, 1), (10, 5), (10, 6)] [(0, 0), (6, 0), (10, 3), (10, 4)] none (va_A ws H0.size) ws H0 (0) (0)) (va_A ws H0.size)) (PC ws + (0)) (PS ws + (0)) (va_A ws H0.size) := by
  refine Met.ofW (cc := cX11_pointerEntry) (maxL := 3) (ret := (some .int)) (by decide) rfl ?_
  intro p e s m args below meth c s₁ B hml hv
  obtain ⟨rfl, hH0, hsz, hP, hK, hD0, hex, hE⟩ := hv
  have hx := B.exec
  have hb := B.bytes
  have hr := B.returns
  have hts0 := atoms_spec (ws := wt yX11_pointerEntry cX11_pointerEntry 3 (some .int)) B.pre
  have hts : ∀ w ∈ tb, w.before _ s = true := fun w h => hts0 w (List.mem_cons_of_mem _ h)
  have hown : s.vm.findClass RX11 = some m.cls := findClass_of_methodNamed B.named
  subst hH0
  have hD := hD0.self (sz := s.heap.size)
  generalize hAe : va_A ws s.heap.size = A at hD hE ⊢
  have hA : ∀ q : Nat, s.heap.size ≤ q → A q := fun q h => by rw [← hAe]; exact Or.inr h
  have hS : va_S A s.heap s.heap [] := va_S.rf
  have hl := lv_entry ([.ref h0, .int x1, .int x2]) (n := 3) (Nat.le_of_ble_eq_true rfl)
  rw [lg_entry_eq]
  generalize (lg_sl ([.ref h0, .int x1, .int x2]) ++ List.replicate (3 - (lg_sl ([.ref h0, .int x1, .int x2])).length) Slot.unset).toArray = ls at hl ⊢
  have hl : lv_has ls 3 [(0, .ref h0), (1, .int x1), (2, .int x2)] := hl
  refine lv_aload_n hx hb dX11_pointerEntry_0 rfl (lv_at hl 0 rfl) ?_
  refine lv_iload_n hx hb dX11_pointerEntry_1 rfl (lv_at hl 1 rfl) ?_
  have hFc := gfree hD hS hA
  refine W_led (fun hL0 => ?_)
  obtain ⟨k_1, fs_1, hk_1⟩ := gC_of o_h0
  refine va_callv (va_runV (As := [.int x1]) (rest := []) ⟨hx, hb, hml, hown, hts⟩ (m_X11_want_x l g s.heap ws h0 (x1) wb wc hG o_h0 tk1 (by have q_pwc := pwc; omega)) (cwV 1 hts (gd_V kw_138 kw_275 kw_276 kw_83 kw_274) rfl rfl rfl (by decide +kernel) ⟨Nat.le_of_ble_eq_true rfl, Nat.le_of_ble_eq_true rfl⟩) ⟨gblindH, va_recv hK hP (ci := 10) (q0 := k_1) rfl hk_1, fun U hU hW9 => gmkH hU hW9 hP hK hD hex hE hS hFc⟩ rfl rfl hl.1 rfl (lv_room (Nat.le_of_ble_eq_true rfl)) dX11_pointerEntry_2 ⟨(show 0 + (PC ws + (0)) ≤ PC ws + (0) from (by have e0 : (0 : Int32).toInt = 0 := (by decide); omega)), (show 0 + (PS ws + (0)) ≤ PS ws + (0) from (by have e0 : (0 : Int32).toInt = 0 := (by decide); omega))⟩) hS (fun q _ h => hFc q h) hFc (fun  ws_2 t9 H1 locs ht9 hvm9 hw9 hB9 hz9 hk9 hS => ?_)
  obtain ⟨E_3, Fr_4, hG, hP1, hD1, dc_5, ds_6, hLd, hdc_5, hds_6⟩ := hB9
  rw [ht9] at hLd
  refine W_tight (hL0.tr hLd).1 (hL0.tr hLd).2.1 ?_
  clear hL0 hLd
  have hP : va_P (gD g) cl0 ws_2 H1 := by rw [← ht9]; exact hP1
  have hD : va_D A ws_2 := hD1.weaken (fun _ _ _ h => hFc _ h)
  obtain ⟨hw9, xp_7⟩ := hw9
  clear hP1 hD1 hz9 hk9 hvm9 ht9 hw9
  generalize H1 = H at hP hS ⊢
  have o_h0 := E_3.1 _ _ o_h0
  refine lv_aload_n hx hb dX11_pointerEntry_5 rfl (lv_at hl 0 rfl) ?_
  obtain ⟨k_8, fs9, hk_8⟩ := gC_of o_h0
  obtain ⟨r0_8, r1_8, r2_8, r3_8, n3_8, r4_8, n4_8, c5_8, c6_8, v7_8, c8_8, c9_8, r10_8, n10_8, r11_8, n11_8, r12_8, n12_8, r13_8, n13_8, r14_8, v15_8, r16_8, n16_8, r17_8, n17_8, rfl, o_r0_8, o_r1_8, o_r2_8, a_r3_8, f4_8, a_r4_8, f6_8, hz_c6_8, o_v7_8, a_r10_8, f10_8, a_r11_8, f12_8, a_r12_8, f14_8, a_r13_8, f16_8, o_r14_8, o_v15_8, a_r16_8, f20_8, a_r17_8, f22_8, f23_8, f24_8, f25_8, f26_8, f27_8, f28_8, -⟩ := (hG.1 _ _ _ _ hk_8).hX11 rfl
  refine va_get (D := gD g) (ci := 10) (v := .ref r2_8) (C := RX11) (T := TX11) (N := 18) hx hb hts inX11 hown hK hP k_8 hk_8 rfl 2 (by decide) (hts _ kw_139) (fun _ h9 => h9) rfl dX11_pointerEntry_6 ?_
  refine lv_iload_n hx hb dX11_pointerEntry_9 rfl (lv_at hl 2 rfl) ?_
  obtain ⟨k_9, fs9, hk_9⟩ := gC_of o_r2_8
  obtain ⟨r0_9, n0_9, c1_9, rfl, a_r0_9, f1_9, f2_9, f3_9, f4_9, f5_9, -⟩ := (hG.1 _ _ _ _ hk_9).hX0 rfl
  have wb_10 : c1_9.toInt ≤ (1) := wcP_u2 hD hk_8 rfl hk_9 rfl xp_7
  have hkW := hk_8
  have hDW := hD
  have hFc := gfree hD hS hA
  have pg_11 := ge_10_17 hD hk_8 rfl a_r17_8
  have pg_12 := ge_0_0 hD hk_9 rfl a_r0_9
  refine W_led (fun hL0 => ?_)
  refine va_callv (va_runV (As := [.int x2]) (rest := []) ⟨hx, hb, hml, hown, hts⟩ (m_X0_put2 l g H ws_2 r2_8 (x2) (c1_9) hG o_r2_8 (gP_of hD hk_9 (fun q90 e90 => by cases e90; exact (by have q_f2_9 := f2_9; have q_f3_9 := f3_9; have q_wb_10 := wb_10; have q_f1_9 := f1_9; have q_f4_9 := f4_9; have q_f5_9 := f5_9; have g_c1_9 := i_rg c1_9; omega))) (gP_of hD hk_9 (fun q90 e90 => by cases e90; exact (by have q_f2_9 := f2_9; have q_f3_9 := f3_9; have q_wb_10 := wb_10; have q_f1_9 := f1_9; have q_f4_9 := f4_9; have q_f5_9 := f5_9; have g_c1_9 := i_rg c1_9; omega)))) (cwV 1 hts (gd_V kw_96 kw_17 kw_18 kw_3 kw_16) rfl rfl rfl (by decide +kernel) ⟨Nat.le_of_ble_eq_true rfl, Nat.le_of_ble_eq_true rfl⟩) ⟨gblindH, va_recv hK hP (ci := 0) (q0 := k_9) rfl hk_9, fun U hU hW9 => gmkH hU hW9 hP hK hD hex hE hS hFc⟩ rfl rfl hl.1 rfl (lv_room (Nat.le_of_ble_eq_true rfl)) dX11_pointerEntry_10 ⟨(show 0 + dc_5 + (PC ws_2 + (0)) ≤ PC ws + (0) from (by have e0 : (0 : Int32).toInt = 0 := (by decide); omega)), (show 0 + ds_6 + (PS ws_2 + (0)) ≤ PS ws + (0) from (by have e0 : (0 : Int32).toInt = 0 := (by decide); omega))⟩) hS (fun q _ h => hFc q h) hFc (fun  ws_13 t9 H1 locs ht9 hvm9 hw9 hB9 hz9 hk9 hS => ?_)
  obtain ⟨E_14, Fr_15, hG, hP1, hD1, dc_16, ds_17, hLd, hdc_16, hds_17⟩ := hB9
  rw [ht9] at hLd
  refine W_tight (hL0.tr hLd).1 (hL0.tr hLd).2.1 ?_
  clear hL0 hLd
  have hP : va_P (gD g) cl0 ws_13 H1 := by rw [← ht9]; exact hP1
  have hD : va_D A ws_13 := hD1.weaken (fun _ _ _ h => hFc _ h)
  have kf_18 := hw9
  clear hP1 hD1 hz9 hk9 hvm9 ht9 hw9
  generalize H1 = H at hP hS ⊢
  have aa_19 := a_r3_8
  have aa_20 := a_r4_8
  have aa_21 := a_r10_8
  have aa_22 := a_r11_8
  have aa_23 := a_r12_8
  have aa_24 := a_r13_8
  have aa_25 := a_r16_8
  have aa_26 := a_r17_8
  have aa_27 := a_r0_9
  have o_h0 := E_14.1 _ _ o_h0
  have tq_28 : wcP ws_13 h0 0 (wb) ((1) + 2) := wcP_2 hDW hG Fr_15 (by decide) (by decide) (by decide) (by decide) hkW rfl (fun k9 ci9 fs9 h9 c9 e9 => by have w9 := kf_18 _ _ _ h9 c9 e9; omega) xp_7
  refine lv_aload_n hx hb dX11_pointerEntry_13 rfl (lv_at hl 0 rfl) ?_
  have tq_29 : enP g ws_13 h0 := enP_mo ((gF.tr Fr_4 (gF.mo (F' := [(0, 0), (0, 1)]) (C' := [(0, 0), (6, 0)]) (S' := none) Fr_15 (fun _ h => h) (fun _ h => h) (Or.inl rfl)))) (by decide) (by decide) (by decide) tk0
  have hFc := gfree hD hS hA
  refine W_led (fun hL0 => ?_)
  obtain ⟨k_30, fs_30, hk_30⟩ := gC_of o_h0
  refine va_calli (va_runV (As := []) (rest := []) ⟨hx, hb, hml, hown, hts⟩ (m_X11_entryOfWanted l g H ws_13 h0 (wb) ((1) + 2) hG o_h0 tq_29 tq_28 (by omega) (by have q_pwc := pwc; omega)) (cwV 0 hts (gd_V kw_141 kw_143 kw_144 kw_83 kw_142) rfl rfl rfl (by decide +kernel) ⟨Nat.le_of_ble_eq_true rfl, Nat.le_of_ble_eq_true rfl⟩) ⟨gblindH, va_recv hK hP (ci := 10) (q0 := k_30) rfl hk_30, fun U hU hW9 => gmkH hU hW9 hP hK hD hex hE hS hFc⟩ rfl rfl hl.1 rfl (lv_room (Nat.le_of_ble_eq_true rfl)) dX11_pointerEntry_14 ⟨(show 0 + dc_5 + dc_16 + (PC ws_13 + (0)) ≤ PC ws + (0) from (by have e0 : (0 : Int32).toInt = 0 := (by decide); omega)), (show 0 + ds_6 + ds_17 + (PS ws_13 + (0)) ≤ PS ws + (0) from (by have e0 : (0 : Int32).toInt = 0 := (by decide); omega))⟩) hS (fun q _ h => hFc q h) hFc (fun r_31 ws_32 t9 H1 locs ht9 hvm9 hw9 hB9 hz9 hk9 hS => ?_)
  obtain ⟨E_33, Fr_34, hG, hP1, hD1, dc_35, ds_36, hLd, hdc_35, hds_36⟩ := hB9
  rw [ht9] at hLd
  refine W_tight (hL0.tr hLd).1 (hL0.tr hLd).2.1 ?_
  clear hL0 hLd
  have hP : va_P (gD g) cl0 ws_32 H1 := by rw [← ht9]; exact hP1
  have hD : va_D A ws_32 := hD1.weaken (fun _ _ _ h => hFc _ h)
  obtain ⟨hw9, xp_37, xp_38⟩ := hw9
  clear hP1 hD1 hz9 hk9 hvm9 ht9 hw9
  generalize H1 = H at hP hS ⊢
  have o_h0 := E_33.1 _ _ o_h0
  refine W_led (fun hLd => ?_)
  have hcl : 0 + dc_5 + dc_16 + dc_35 + PC ws_32 ≤ PC ws + (0) := (by omega)
  have hsl : 0 + ds_6 + ds_17 + ds_36 + PS ws_32 ≤ PS ws + (0) := (by omega)
  refine W.widen (k := PC ws + (0)) (n := PS ws + (0)) (by omega) (by omega) ?_
  have tq_39 : wcP ws_32 h0 0 (wb) (3) := wcP_le (by have e0 : (0 : Int32).toInt = 0 := (by decide); have e09 : (0 : Int32).toInt = 0 := rfl; omega) (by have q_pwc := pwc; have e09 : (0 : Int32).toInt = 0 := rfl; omega) (by have e3 : (3 : Int32).toInt = 3 := (by decide); have e09 : (0 : Int32).toInt = 0 := rfl; omega) xp_38
  exact W.iret (v := r_31) hx hb hr (fun t9 ht9 hW9 => ⟨⟨_, ws_32, rfl, ⟨trivial, xp_37, tq_39⟩, ⟨(E_3.tr (E_14.tr E_33)), (gF.tr (gF.mo (F' := [(0, 0), (0, 1), (10, 5), (10, 6)]) (C' := [(0, 0), (6, 0), (10, 3), (10, 4)]) (S' := none) Fr_4 (by decide) (by decide) (Or.inr rfl)) (gF.tr (gF.mo (F' := [(0, 0), (0, 1), (10, 5), (10, 6)]) (C' := [(0, 0), (6, 0), (10, 3), (10, 4)]) (S' := none) Fr_15 (by decide) (by decide) (Or.inl rfl)) Fr_34)), hG, by rw [ht9]; exact hP, hD, _, _, by rw [ht9]; exact hLd, hcl, hsl⟩⟩, hS.F ht9⟩) hS.2.2 dX11_pointerEntry_17
set_option maxHeartbeats 1000000 in
set_option maxRecDepth 100000 in
theorem m_X11_pointersEntry (l : Launch) (g : Gm) (H0 : Heap) (ws : va_W) (h0 : Nat) (x1 : Int32) (x2 : Int32) (x3 : Int32) (wb : Int) (wc : Int) (hG : Good g ws) (o_h0 : gC ws h0 10) (tk0 : enP g ws h0) (tk1 : wcP ws h0 0 wb wc) (pwc : 0 ≤ wb ∧ 0 ≤ wc ∧ (wb) ≤ 131072 ∧ (5) ≤ 131072) : Met l yX11_pointersEntry (wt yX11_pointersEntry cX11_pointersEntry 4 (some .int)) ({ frames := 4, cells := PC ws + (0), slots := PS ws + (0), locals := 106 }) (va_Pc [.ref h0, .int x1, .int x2, .int x3] (st_H g H0 ws)) (va_Qi (fun (r : Int32) (u9 : va_W) => (True) ∧ (enP g u9 h0) ∧ (wcP u9 h0 0 (wb) (5))) (gQ2 g [(0, 0), (0, 1), (10, 5), (10, 6)] [(0, 0), (6, 0), (10, 3), (10, 4)] none (va_A ws H0.size) ws H0 (0) (0)) (va_A ws H0.size)) (PC ws + (0)) (PS ws + (0)) (va_A ws H0.size) := by
  refine Met.ofW (cc := cX11_pointersEntry) (maxL := 4) (ret := (some .int)) (by decide) rfl ?_
  intro p e s m args below meth c s₁ B hml hv
  obtain ⟨rfl, hH0, hsz, hP, hK, hD0, hex, hE⟩ := hv
  have hx := B.exec
  have hb := B.bytes
  have hr := B.returns
  have hts0 := atoms_spec (ws := wt yX11_pointersEntry cX11_pointersEntry 4 (some .int)) B.pre
  have hts : ∀ w ∈ tb, w.before _ s = true := fun w h => hts0 w (List.mem_cons_of_mem _ h)
  have hown : s.vm.findClass RX11 = some m.cls := findClass_of_methodNamed B.named
  subst hH0
  have hD := hD0.self (sz := s.heap.size)
  generalize hAe : va_A ws s.heap.size = A at hD hE ⊢
  have hA : ∀ q : Nat, s.heap.size ≤ q → A q := fun q h => by rw [← hAe]; exact Or.inr h
  have hS : va_S A s.heap s.heap [] := va_S.rf
  have hl := lv_entry ([.ref h0, .int x1, .int x2, .int x3]) (n := 4) (Nat.le_of_ble_eq_true rfl)
  rw [lg_entry_eq]
  generalize (lg_sl ([.ref h0, .int x1, .int x2, .int x3]) ++ List.replicate (4 - (lg_sl ([.ref h0, .int x1, .int x2, .int x3])).length) Slot.unset).toArray = ls at hl ⊢
  have hl : lv_has ls 4 [(0, .ref h0), (1, .int x1), (2, .int x2), (3, .int x3)] := hl
  refine lv_aload_n hx hb dX11_pointersEntry_0 rfl (lv_at hl 0 rfl) ?_
  refine lv_iload_n hx hb dX11_pointersEntry_1 rfl (lv_at hl 1 rfl) ?_
  have hFc := gfree hD hS hA
  refine W_led (fun hL0 => ?_)
  obtain ⟨k_1, fs_1, hk_1⟩ := gC_of o_h0
  refine va_callv (va_runV (As := [.int x1]) (rest := []) ⟨hx, hb, hml, hown, hts⟩ (m_X11_want_x l g s.heap ws h0 (x1) wb wc hG o_h0 tk1 (by have q_pwc := pwc; omega)) (cwV 1 hts (gd_V kw_138 kw_275 kw_276 kw_83 kw_274) rfl rfl rfl (by decide +kernel) ⟨Nat.le_of_ble_eq_true rfl, Nat.le_of_ble_eq_true rfl⟩) ⟨gblindH, va_recv hK hP (ci := 10) (q0 := k_1) rfl hk_1, fun U hU hW9 => gmkH hU hW9 hP hK hD hex hE hS hFc⟩ rfl rfl hl.1 rfl (lv_room (Nat.le_of_ble_eq_true rfl)) dX11_pointersEntry_2 ⟨(show 0 + (PC ws + (0)) ≤ PC ws + (0) from (by have e0 : (0 : Int32).toInt = 0 := (by decide); omega)), (show 0 + (PS ws + (0)) ≤ PS ws + (0) from (by have e0 : (0 : Int32).toInt = 0 := (by decide); omega))⟩) hS (fun q _ h => hFc q h) hFc (fun  ws_2 t9 H1 locs ht9 hvm9 hw9 hB9 hz9 hk9 hS => ?_)
  obtain ⟨E_3, Fr_4, hG, hP1, hD1, dc_5, ds_6, hLd, hdc_5, hds_6⟩ := hB9
  rw [ht9] at hLd
  refine W_tight (hL0.tr hLd).1 (hL0.tr hLd).2.1 ?_
  clear hL0 hLd
  have hP : va_P (gD g) cl0 ws_2 H1 := by rw [← ht9]; exact hP1
  have hD : va_D A ws_2 := hD1.weaken (fun _ _ _ h => hFc _ h)
  obtain ⟨hw9, xp_7⟩ := hw9
  clear hP1 hD1 hz9 hk9 hvm9 ht9 hw9
  generalize H1 = H at hP hS ⊢
  have o_h0 := E_3.1 _ _ o_h0
  refine lv_aload_n hx hb dX11_pointersEntry_5 rfl (lv_at hl 0 rfl) ?_
  obtain ⟨k_8, fs9, hk_8⟩ := gC_of o_h0
  obtain ⟨r0_8, r1_8, r2_8, r3_8, n3_8, r4_8, n4_8, c5_8, c6_8, v7_8, c8_8, c9_8, r10_8, n10_8, r11_8, n11_8, r12_8, n12_8, r13_8, n13_8, r14_8, v15_8, r16_8, n16_8, r17_8, n17_8, rfl, o_r0_8, o_r1_8, o_r2_8, a_r3_8, f4_8, a_r4_8, f6_8, hz_c6_8, o_v7_8, a_r10_8, f10_8, a_r11_8, f12_8, a_r12_8, f14_8, a_r13_8, f16_8, o_r14_8, o_v15_8, a_r16_8, f20_8, a_r17_8, f22_8, f23_8, f24_8, f25_8, f26_8, f27_8, f28_8, -⟩ := (hG.1 _ _ _ _ hk_8).hX11 rfl
  refine va_get (D := gD g) (ci := 10) (v := .ref r2_8) (C := RX11) (T := TX11) (N := 18) hx hb hts inX11 hown hK hP k_8 hk_8 rfl 2 (by decide) (hts _ kw_139) (fun _ h9 => h9) rfl dX11_pointersEntry_6 ?_
  refine lv_iload_n hx hb dX11_pointersEntry_9 rfl (lv_at hl 2 rfl) ?_
  obtain ⟨k_9, fs9, hk_9⟩ := gC_of o_r2_8
  obtain ⟨r0_9, n0_9, c1_9, rfl, a_r0_9, f1_9, f2_9, f3_9, f4_9, f5_9, -⟩ := (hG.1 _ _ _ _ hk_9).hX0 rfl
  have wb_10 : c1_9.toInt ≤ (1) := wcP_u2 hD hk_8 rfl hk_9 rfl xp_7
  have hkW := hk_8
  have hDW := hD
  have hFc := gfree hD hS hA
  have pg_11 := ge_10_17 hD hk_8 rfl a_r17_8
  have pg_12 := ge_0_0 hD hk_9 rfl a_r0_9
  refine W_led (fun hL0 => ?_)
  refine va_callv (va_runV (As := [.int x2]) (rest := []) ⟨hx, hb, hml, hown, hts⟩ (m_X0_put2 l g H ws_2 r2_8 (x2) (c1_9) hG o_r2_8 (gP_of hD hk_9 (fun q90 e90 => by cases e90; exact (by have q_f2_9 := f2_9; have q_f3_9 := f3_9; have q_wb_10 := wb_10; have q_f1_9 := f1_9; have q_f4_9 := f4_9; have q_f5_9 := f5_9; have g_c1_9 := i_rg c1_9; omega))) (gP_of hD hk_9 (fun q90 e90 => by cases e90; exact (by have q_f2_9 := f2_9; have q_f3_9 := f3_9; have q_wb_10 := wb_10; have q_f1_9 := f1_9; have q_f4_9 := f4_9; have q_f5_9 := f5_9; have g_c1_9 := i_rg c1_9; omega)))) (cwV 1 hts (gd_V kw_96 kw_17 kw_18 kw_3 kw_16) rfl rfl rfl (by decide +kernel) ⟨Nat.le_of_ble_eq_true rfl, Nat.le_of_ble_eq_true rfl⟩) ⟨gblindH, va_recv hK hP (ci := 0) (q0 := k_9) rfl hk_9, fun U hU hW9 => gmkH hU hW9 hP hK hD hex hE hS hFc⟩ rfl rfl hl.1 rfl (lv_room (Nat.le_of_ble_eq_true rfl)) dX11_pointersEntry_10 ⟨(show 0 + dc_5 + (PC ws_2 + (0)) ≤ PC ws + (0) from (by have e0 : (0 : Int32).toInt = 0 := (by decide); omega)), (show 0 + ds_6 + (PS ws_2 + (0)) ≤ PS ws + (0) from (by have e0 : (0 : Int32).toInt = 0 := (by decide); omega))⟩) hS (fun q _ h => hFc q h) hFc (fun  ws_13 t9 H1 locs ht9 hvm9 hw9 hB9 hz9 hk9 hS => ?_)
  obtain ⟨E_14, Fr_15, hG, hP1, hD1, dc_16, ds_17, hLd, hdc_16, hds_17⟩ := hB9
  rw [ht9] at hLd
  refine W_tight (hL0.tr hLd).1 (hL0.tr hLd).2.1 ?_
  clear hL0 hLd
  have hP : va_P (gD g) cl0 ws_13 H1 := by rw [← ht9]; exact hP1
  have hD : va_D A ws_13 := hD1.weaken (fun _ _ _ h => hFc _ h)
  have kf_18 := hw9
  clear hP1 hD1 hz9 hk9 hvm9 ht9 hw9
  generalize H1 = H at hP hS ⊢
  have aa_19 := a_r3_8
  have aa_20 := a_r4_8
  have aa_21 := a_r10_8
  have aa_22 := a_r11_8
  have aa_23 := a_r12_8
  have aa_24 := a_r13_8
  have aa_25 := a_r16_8
  have aa_26 := a_r17_8
  have aa_27 := a_r0_9
  have o_h0 := E_14.1 _ _ o_h0
  have tq_28 : wcP ws_13 h0 0 (wb) ((1) + 2) := wcP_2 hDW hG Fr_15 (by decide) (by decide) (by decide) (by decide) hkW rfl (fun k9 ci9 fs9 h9 c9 e9 => by have w9 := kf_18 _ _ _ h9 c9 e9; omega) xp_7
  refine lv_aload_n hx hb dX11_pointersEntry_13 rfl (lv_at hl 0 rfl) ?_
  obtain ⟨fs9, hk_29, hq_29⟩ := ((gF.a (F' := [(0, 0), (0, 1)]) Fr_15 (fun _ h => h))) _ _ _ hk_8
  obtain ⟨r0_29, r1_29, r2_29, r3_29, n3_29, r4_29, n4_29, c5_29, c6_29, v7_29, c8_29, c9_29, r10_29, n10_29, r11_29, n11_29, r12_29, n12_29, r13_29, n13_29, r14_29, v15_29, r16_29, n16_29, r17_29, n17_29, rfl, o_r0_29, o_r1_29, o_r2_29, a_r3_29, f4_29, a_r4_29, f6_29, hz_c6_29, o_v7_29, a_r10_29, f10_29, a_r11_29, f12_29, a_r12_29, f14_29, a_r13_29, f16_29, o_r14_29, o_v15_29, a_r16_29, f20_29, a_r17_29, f22_29, f23_29, f24_29, f25_29, f26_29, f27_29, f28_29, -⟩ := (hG.1 _ _ _ _ hk_29).hX11 rfl
  obtain rfl := fe_r (hq_29 2 (by decide))
  have o_r2_8 := o_r2_29
  obtain rfl := fe_q (hq_29 7 (by decide))
  have o_v7_8 := o_v7_29
  obtain rfl := fe_q (hq_29 15 (by decide))
  have o_v15_8 := o_v15_29
  refine va_get (D := gD g) (ci := 10) (v := .ref r2_8) (C := RX11) (T := TX11) (N := 18) hx hb hts inX11 hown hK hP k_8 hk_29 rfl 2 (by decide) (hts _ kw_139) (fun _ h9 => h9) rfl dX11_pointersEntry_14 ?_
  refine lv_iload_n hx hb dX11_pointersEntry_17 rfl (lv_at hl 3 rfl) ?_
  obtain ⟨fs9, hk_30, hq_30⟩ := ((gF.a (F' := [(0, 0), (0, 1)]) Fr_15 (fun _ h => h))) _ _ _ hk_9
  obtain ⟨r0_30, n0_30, c1_30, rfl, a_r0_30, f1_30, f2_30, f3_30, f4_30, f5_30, -⟩ := (hG.1 _ _ _ _ hk_30).hX0 rfl
  have kq_31 := kf_18 _ _ _ hk_30 _ rfl
  have wb_32 : c1_30.toInt ≤ ((1) + 2) := wcP_u2 hD hk_29 rfl hk_30 rfl tq_28
  have hkW := hk_29
  have hDW := hD
  have hFc := gfree hD hS hA
  have pg_33 := ge_10_17 hD hk_29 rfl a_r17_29
  have pg_34 := ge_0_0 hD hk_30 rfl a_r0_30
  refine W_led (fun hL0 => ?_)
  refine va_callv (va_runV (As := [.int x3]) (rest := []) ⟨hx, hb, hml, hown, hts⟩ (m_X0_put2 l g H ws_13 r2_8 (x3) (c1_30) hG o_r2_8 (gP_of hD hk_30 (fun q90 e90 => by cases e90; exact (by have q_f2_30 := f2_30; have q_f3_30 := f3_30; have q_kq_31 := kq_31; have q_wb_32 := wb_32; have q_f2_9 := f2_9; have q_f3_9 := f3_9; have q_wb_10 := wb_10; have q_f1_30 := f1_30; have q_f4_30 := f4_30; have q_f5_30 := f5_30; have q_f1_9 := f1_9; have q_f4_9 := f4_9; have q_f5_9 := f5_9; have g_c1_30 := i_rg c1_30; have g_c1_9 := i_rg c1_9; omega))) (gP_of hD hk_30 (fun q90 e90 => by cases e90; exact (by have q_f2_30 := f2_30; have q_f3_30 := f3_30; have q_kq_31 := kq_31; have q_wb_32 := wb_32; have q_f2_9 := f2_9; have q_f3_9 := f3_9; have q_wb_10 := wb_10; have q_f1_30 := f1_30; have q_f4_30 := f4_30; have q_f5_30 := f5_30; have q_f1_9 := f1_9; have q_f4_9 := f4_9; have q_f5_9 := f5_9; have g_c1_30 := i_rg c1_30; have g_c1_9 := i_rg c1_9; omega)))) (cwV 1 hts (gd_V kw_96 kw_17 kw_18 kw_3 kw_16) rfl rfl rfl (by decide +kernel) ⟨Nat.le_of_ble_eq_true rfl, Nat.le_of_ble_eq_true rfl⟩) ⟨gblindH, va_recv hK hP (ci := 0) (q0 := k_9) rfl hk_30, fun U hU hW9 => gmkH hU hW9 hP hK hD hex hE hS hFc⟩ rfl rfl hl.1 rfl (lv_room (Nat.le_of_ble_eq_true rfl)) dX11_pointersEntry_18 ⟨(show 0 + dc_5 + dc_16 + (PC ws_13 + (0)) ≤ PC ws + (0) from (by have e0 : (0 : Int32).toInt = 0 := (by decide); omega)), (show 0 + ds_6 + ds_17 + (PS ws_13 + (0)) ≤ PS ws + (0) from (by have e0 : (0 : Int32).toInt = 0 := (by decide); omega))⟩) hS (fun q _ h => hFc q h) hFc (fun  ws_35 t9 H1 locs ht9 hvm9 hw9 hB9 hz9 hk9 hS => ?_)
  obtain ⟨E_36, Fr_37, hG, hP1, hD1, dc_38, ds_39, hLd, hdc_38, hds_39⟩ := hB9
  rw [ht9] at hLd
  refine W_tight (hL0.tr hLd).1 (hL0.tr hLd).2.1 ?_
  clear hL0 hLd
  have hP : va_P (gD g) cl0 ws_35 H1 := by rw [← ht9]; exact hP1
  have hD : va_D A ws_35 := hD1.weaken (fun _ _ _ h => hFc _ h)
  have kf_40 := hw9
  clear hP1 hD1 hz9 hk9 hvm9 ht9 hw9
  generalize H1 = H at hP hS ⊢
  have aa_41 := a_r3_29
  have aa_42 := a_r4_29
  have aa_43 := a_r10_29
  have aa_44 := a_r11_29
  have aa_45 := a_r12_29
  have aa_46 := a_r13_29
  have aa_47 := a_r16_29
  have aa_48 := a_r17_29
  have aa_49 := a_r0_30
  have o_h0 := E_36.1 _ _ o_h0
  have tq_50 : wcP ws_35 h0 0 (wb) (((1) + 2) + 2) := wcP_2 hDW hG Fr_37 (by decide) (by decide) (by decide) (by decide) hkW rfl (fun k9 ci9 fs9 h9 c9 e9 => by have w9 := kf_40 _ _ _ h9 c9 e9; omega) tq_28
  refine lv_aload_n hx hb dX11_pointersEntry_21 rfl (lv_at hl 0 rfl) ?_
  have tq_51 : enP g ws_35 h0 := enP_mo ((gF.tr Fr_4 (gF.tr (gF.mo (F' := [(0, 0), (0, 1)]) (C' := [(0, 0), (6, 0)]) (S' := none) Fr_15 (fun _ h => h) (fun _ h => h) (Or.inl rfl)) (gF.mo (F' := [(0, 0), (0, 1)]) (C' := [(0, 0), (6, 0)]) (S' := none) Fr_37 (fun _ h => h) (fun _ h => h) (Or.inl rfl))))) (by decide) (by decide) (by decide) tk0
  have hFc := gfree hD hS hA
  refine W_led (fun hL0 => ?_)
  obtain ⟨k_52, fs_52, hk_52⟩ := gC_of o_h0
  refine va_calli (va_runV (As := []) (rest := []) ⟨hx, hb, hml, hown, hts⟩ (m_X11_entryOfWanted l g H ws_35 h0 (wb) (((1) + 2) + 2) hG o_h0 tq_51 tq_50 (by omega) (by have q_pwc := pwc; omega)) (cwV 0 hts (gd_V kw_141 kw_143 kw_144 kw_83 kw_142) rfl rfl rfl (by decide +kernel) ⟨Nat.le_of_ble_eq_true rfl, Nat.le_of_ble_eq_true rfl⟩) ⟨gblindH, va_recv hK hP (ci := 10) (q0 := k_52) rfl hk_52, fun U hU hW9 => gmkH hU hW9 hP hK hD hex hE hS hFc⟩ rfl rfl hl.1 rfl (lv_room (Nat.le_of_ble_eq_true rfl)) dX11_pointersEntry_22 ⟨(show 0 + dc_5 + dc_16 + dc_38 + (PC ws_35 + (0)) ≤ PC ws + (0) from (by have e0 : (0 : Int32).toInt = 0 := (by decide); omega)), (show 0 + ds_6 + ds_17 + ds_39 + (PS ws_35 + (0)) ≤ PS ws + (0) from (by have e0 : (0 : Int32).toInt = 0 := (by decide); omega))⟩) hS (fun q _ h => hFc q h) hFc (fun r_53 ws_54 t9 H1 locs ht9 hvm9 hw9 hB9 hz9 hk9 hS => ?_)
  obtain ⟨E_55, Fr_56, hG, hP1, hD1, dc_57, ds_58, hLd, hdc_57, hds_58⟩ := hB9
  rw [ht9] at hLd
  refine W_tight (hL0.tr hLd).1 (hL0.tr hLd).2.1 ?_
  clear hL0 hLd
  have hP : va_P (gD g) cl0 ws_54 H1 := by rw [← ht9]; exact hP1
  have hD : va_D A ws_54 := hD1.weaken (fun _ _ _ h => hFc _ h)
  obtain ⟨hw9, xp_59, xp_60⟩ := hw9
  clear hP1 hD1 hz9 hk9 hvm9 ht9 hw9
  generalize H1 = H at hP hS ⊢
  have o_h0 := E_55.1 _ _ o_h0
  refine W_led (fun hLd => ?_)
  have hcl : 0 + dc_5 + dc_16 + dc_38 + dc_57 + PC ws_54 ≤ PC ws + (0) := (by omega)
  have hsl : 0 + ds_6 + ds_17 + ds_39 + ds_58 + PS ws_54 ≤ PS ws + (0) := (by omega)
  refine W.widen (k := PC ws + (0)) (n := PS ws + (0)) (by omega) (by omega) ?_
  have tq_61 : wcP ws_54 h0 0 (wb) (5) := wcP_le (by have e0 : (0 : Int32).toInt = 0 := (by decide); have e09 : (0 : Int32).toInt = 0 := rfl; omega) (by have q_pwc := pwc; have e09 : (0 : Int32).toInt = 0 := rfl; omega) (by have e5 : (5 : Int32).toInt = 5 := (by decide); have e09 : (0 : Int32).toInt = 0 := rfl; omega) xp_60
  exact W.iret (v := r_53) hx hb hr (fun t9 ht9 hW9 => ⟨⟨_, ws_54, rfl, ⟨trivial, xp_59, tq_61⟩, ⟨(E_3.tr (E_14.tr (E_36.tr E_55))), (gF.tr (gF.mo (F' := [(0, 0), (0, 1), (10, 5), (10, 6)]) (C' := [(0, 0), (6, 0), (10, 3), (10, 4)]) (S' := none) Fr_4 (by decide) (by decide) (Or.inr rfl)) (gF.tr (gF.mo (F' := [(0, 0), (0, 1), (10, 5), (10, 6)]) (C' := [(0, 0), (6, 0), (10, 3), (10, 4)]) (S' := none) Fr_15 (by decide) (by decide) (Or.inl rfl)) (gF.tr (gF.mo (F' := [(0, 0), (0, 1), (10, 5), (10, 6)]) (C' := [(0, 0), (6, 0), (10, 3), (10, 4)]) (S' := none) Fr_37 (by decide) (by decide) (Or.inl rfl)) Fr_56))), hG, by rw [ht9]; exact hP, hD, _, _, by rw [ht9]; exact hLd, hcl, hsl⟩⟩, hS.F ht9⟩) hS.2.2 dX11_pointersEntry_25
set_option maxHeartbeats 1000000 in
set_option maxRecDepth 100000 in
theorem m_X11_intEntry (l : Launch) (g : Gm) (H0 : Heap) (ws : va_W) (h0 : Nat) (x1 : Int32) (wb : Int) (wc : Int) (hG : Good g ws) (o_h0 : gC ws h0 10) (tk0 : enP g ws h0) (tk1 : wcP ws h0 0 wb wc) (pwc : 0 ≤ wb ∧ 0 ≤ wc ∧ (wb) ≤ 131072 ∧ (5) ≤ 131072) : Met l yX11_intEntry (wt yX11_intEntry cX11_intEntry 2 (some .int)) ({ frames := 5, cells := PC ws + (0), slots := PS ws + (0), locals := 125 }) (va_Pc [.ref h0, .int x1] (st_H g H0 ws)) (va_Qi (fun (r : Int32) (u9 : va_W) => (True) ∧ (enP g u9 h0) ∧ (wcP u9 h0 0 (wb) (5))) (gQ2 g [(0, 0), (0, 1), (10, 5), (10, 6)] [(0, 0), (6, 0), (10, 3), (10, 4)] none (va_A ws H0.size) ws H0 (0) (0)) (va_A ws H0.size)) (PC ws + (0)) (PS ws + (0)) (va_A ws H0.size) := by
  refine Met.ofW (cc := cX11_intEntry) (maxL := 2) (ret := (some .int)) (by decide) rfl ?_
  intro p e s m args below meth c s₁ B hml hv
  obtain ⟨rfl, hH0, hsz, hP, hK, hD0, hex, hE⟩ := hv
  have hx := B.exec
  have hb := B.bytes
  have hr := B.returns
  have hts0 := atoms_spec (ws := wt yX11_intEntry cX11_intEntry 2 (some .int)) B.pre
  have hts : ∀ w ∈ tb, w.before _ s = true := fun w h => hts0 w (List.mem_cons_of_mem _ h)
  have hown : s.vm.findClass RX11 = some m.cls := findClass_of_methodNamed B.named
  subst hH0
  have hD := hD0.self (sz := s.heap.size)
  generalize hAe : va_A ws s.heap.size = A at hD hE ⊢
  have hA : ∀ q : Nat, s.heap.size ≤ q → A q := fun q h => by rw [← hAe]; exact Or.inr h
  have hS : va_S A s.heap s.heap [] := va_S.rf
  have hl := lv_entry ([.ref h0, .int x1]) (n := 2) (Nat.le_of_ble_eq_true rfl)
  rw [lg_entry_eq]
  generalize (lg_sl ([.ref h0, .int x1]) ++ List.replicate (2 - (lg_sl ([.ref h0, .int x1])).length) Slot.unset).toArray = ls at hl ⊢
  have hl : lv_has ls 2 [(0, .ref h0), (1, .int x1)] := hl
  refine lv_aload_n hx hb dX11_intEntry_0 rfl (lv_at hl 0 rfl) ?_
  refine lv_iconst (v := 3) hx hb dX11_intEntry_1 (by decide) ?_
  have hFc := gfree hD hS hA
  refine W_led (fun hL0 => ?_)
  obtain ⟨k_1, fs_1, hk_1⟩ := gC_of o_h0
  refine va_callv (va_runV (As := [.int 3]) (rest := []) ⟨hx, hb, hml, hown, hts⟩ (m_X11_want_x l g s.heap ws h0 (3) wb wc hG o_h0 tk1 (by have q_pwc := pwc; omega)) (cwV 1 hts (gd_V kw_138 kw_275 kw_276 kw_83 kw_274) rfl rfl rfl (by decide +kernel) ⟨Nat.le_of_ble_eq_true rfl, Nat.le_of_ble_eq_true rfl⟩) ⟨gblindH, va_recv hK hP (ci := 10) (q0 := k_1) rfl hk_1, fun U hU hW9 => gmkH hU hW9 hP hK hD hex hE hS hFc⟩ rfl rfl hl.1 rfl (lv_room (Nat.le_of_ble_eq_true rfl)) dX11_intEntry_2 ⟨(show 0 + (PC ws + (0)) ≤ PC ws + (0) from (by have e0 : (0 : Int32).toInt = 0 := (by decide); omega)), (show 0 + (PS ws + (0)) ≤ PS ws + (0) from (by have e0 : (0 : Int32).toInt = 0 := (by decide); omega))⟩) hS (fun q _ h => hFc q h) hFc (fun  ws_2 t9 H1 locs ht9 hvm9 hw9 hB9 hz9 hk9 hS => ?_)
  obtain ⟨E_3, Fr_4, hG, hP1, hD1, dc_5, ds_6, hLd, hdc_5, hds_6⟩ := hB9
  rw [ht9] at hLd
  refine W_tight (hL0.tr hLd).1 (hL0.tr hLd).2.1 ?_
  clear hL0 hLd
  have hP : va_P (gD g) cl0 ws_2 H1 := by rw [← ht9]; exact hP1
  have hD : va_D A ws_2 := hD1.weaken (fun _ _ _ h => hFc _ h)
  obtain ⟨hw9, xp_7⟩ := hw9
  clear hP1 hD1 hz9 hk9 hvm9 ht9 hw9
  generalize H1 = H at hP hS ⊢
  have o_h0 := E_3.1 _ _ o_h0
  refine lv_aload_n hx hb dX11_intEntry_5 rfl (lv_at hl 0 rfl) ?_
  obtain ⟨k_8, fs9, hk_8⟩ := gC_of o_h0
  obtain ⟨r0_8, r1_8, r2_8, r3_8, n3_8, r4_8, n4_8, c5_8, c6_8, v7_8, c8_8, c9_8, r10_8, n10_8, r11_8, n11_8, r12_8, n12_8, r13_8, n13_8, r14_8, v15_8, r16_8, n16_8, r17_8, n17_8, rfl, o_r0_8, o_r1_8, o_r2_8, a_r3_8, f4_8, a_r4_8, f6_8, hz_c6_8, o_v7_8, a_r10_8, f10_8, a_r11_8, f12_8, a_r12_8, f14_8, a_r13_8, f16_8, o_r14_8, o_v15_8, a_r16_8, f20_8, a_r17_8, f22_8, f23_8, f24_8, f25_8, f26_8, f27_8, f28_8, -⟩ := (hG.1 _ _ _ _ hk_8).hX11 rfl
  refine va_get (D := gD g) (ci := 10) (v := .ref r2_8) (C := RX11) (T := TX11) (N := 18) hx hb hts inX11 hown hK hP k_8 hk_8 rfl 2 (by decide) (hts _ kw_139) (fun _ h9 => h9) rfl dX11_intEntry_6 ?_
  refine lv_iload_n hx hb dX11_intEntry_9 rfl (lv_at hl 1 rfl) ?_
  obtain ⟨k_9, fs9, hk_9⟩ := gC_of o_r2_8
  obtain ⟨r0_9, n0_9, c1_9, rfl, a_r0_9, f1_9, f2_9, f3_9, f4_9, f5_9, -⟩ := (hG.1 _ _ _ _ hk_9).hX0 rfl
  have wb_10 : c1_9.toInt ≤ (1) := wcP_u2 hD hk_8 rfl hk_9 rfl xp_7
  have hkW := hk_8
  have hDW := hD
  have hFc := gfree hD hS hA
  have pg_11 := ge_10_17 hD hk_8 rfl a_r17_8
  have pg_12 := ge_0_0 hD hk_9 rfl a_r0_9
  refine W_led (fun hL0 => ?_)
  refine va_callv (va_runV (As := [.int x1]) (rest := []) ⟨hx, hb, hml, hown, hts⟩ (m_X0_put4 l g H ws_2 r2_8 (x1) (c1_9) hG o_r2_8 (gP_of hD hk_9 (fun q90 e90 => by cases e90; exact (by have q_f2_9 := f2_9; have q_f3_9 := f3_9; have q_wb_10 := wb_10; have q_f1_9 := f1_9; have q_f4_9 := f4_9; have q_f5_9 := f5_9; have g_c1_9 := i_rg c1_9; omega))) (gP_of hD hk_9 (fun q90 e90 => by cases e90; exact (by have q_f2_9 := f2_9; have q_f3_9 := f3_9; have q_wb_10 := wb_10; have q_f1_9 := f1_9; have q_f4_9 := f4_9; have q_f5_9 := f5_9; have g_c1_9 := i_rg c1_9; omega)))) (cwV 1 hts (gd_V kw_98 kw_21 kw_22 kw_3 kw_20) rfl rfl rfl (by decide +kernel) ⟨Nat.le_of_ble_eq_true rfl, Nat.le_of_ble_eq_true rfl⟩) ⟨gblindH, va_recv hK hP (ci := 0) (q0 := k_9) rfl hk_9, fun U hU hW9 => gmkH hU hW9 hP hK hD hex hE hS hFc⟩ rfl rfl hl.1 rfl (lv_room (Nat.le_of_ble_eq_true rfl)) dX11_intEntry_10 ⟨(show 0 + dc_5 + (PC ws_2 + (0)) ≤ PC ws + (0) from (by have e0 : (0 : Int32).toInt = 0 := (by decide); omega)), (show 0 + ds_6 + (PS ws_2 + (0)) ≤ PS ws + (0) from (by have e0 : (0 : Int32).toInt = 0 := (by decide); omega))⟩) hS (fun q _ h => hFc q h) hFc (fun  ws_13 t9 H1 locs ht9 hvm9 hw9 hB9 hz9 hk9 hS => ?_)
  obtain ⟨E_14, Fr_15, hG, hP1, hD1, dc_16, ds_17, hLd, hdc_16, hds_17⟩ := hB9
  rw [ht9] at hLd
  refine W_tight (hL0.tr hLd).1 (hL0.tr hLd).2.1 ?_
  clear hL0 hLd
  have hP : va_P (gD g) cl0 ws_13 H1 := by rw [← ht9]; exact hP1
  have hD : va_D A ws_13 := hD1.weaken (fun _ _ _ h => hFc _ h)
  have kf_18 := hw9
  clear hP1 hD1 hz9 hk9 hvm9 ht9 hw9
  generalize H1 = H at hP hS ⊢
  have aa_19 := a_r3_8
  have aa_20 := a_r4_8
  have aa_21 := a_r10_8
  have aa_22 := a_r11_8
  have aa_23 := a_r12_8
  have aa_24 := a_r13_8
  have aa_25 := a_r16_8
  have aa_26 := a_r17_8
  have aa_27 := a_r0_9
  have o_h0 := E_14.1 _ _ o_h0
  have tq_28 : wcP ws_13 h0 0 (wb) ((1) + 4) := wcP_2 hDW hG Fr_15 (by decide) (by decide) (by decide) (by decide) hkW rfl (fun k9 ci9 fs9 h9 c9 e9 => by have w9 := kf_18 _ _ _ h9 c9 e9; omega) xp_7
  refine lv_aload_n hx hb dX11_intEntry_13 rfl (lv_at hl 0 rfl) ?_
  have tq_29 : enP g ws_13 h0 := enP_mo ((gF.tr Fr_4 (gF.mo (F' := [(0, 0), (0, 1)]) (C' := [(0, 0), (6, 0)]) (S' := none) Fr_15 (fun _ h => h) (fun _ h => h) (Or.inl rfl)))) (by decide) (by decide) (by decide) tk0
  have hFc := gfree hD hS hA
  refine W_led (fun hL0 => ?_)
  obtain ⟨k_30, fs_30, hk_30⟩ := gC_of o_h0
  refine va_calli (va_runV (As := []) (rest := []) ⟨hx, hb, hml, hown, hts⟩ (m_X11_entryOfWanted l g H ws_13 h0 (wb) ((1) + 4) hG o_h0 tq_29 tq_28 (by omega) (by have q_pwc := pwc; omega)) (cwV 0 hts (gd_V kw_141 kw_143 kw_144 kw_83 kw_142) rfl rfl rfl (by decide +kernel) ⟨Nat.le_of_ble_eq_true rfl, Nat.le_of_ble_eq_true rfl⟩) ⟨gblindH, va_recv hK hP (ci := 10) (q0 := k_30) rfl hk_30, fun U hU hW9 => gmkH hU hW9 hP hK hD hex hE hS hFc⟩ rfl rfl hl.1 rfl (lv_room (Nat.le_of_ble_eq_true rfl)) dX11_intEntry_14 ⟨(show 0 + dc_5 + dc_16 + (PC ws_13 + (0)) ≤ PC ws + (0) from (by have e0 : (0 : Int32).toInt = 0 := (by decide); omega)), (show 0 + ds_6 + ds_17 + (PS ws_13 + (0)) ≤ PS ws + (0) from (by have e0 : (0 : Int32).toInt = 0 := (by decide); omega))⟩) hS (fun q _ h => hFc q h) hFc (fun r_31 ws_32 t9 H1 locs ht9 hvm9 hw9 hB9 hz9 hk9 hS => ?_)
  obtain ⟨E_33, Fr_34, hG, hP1, hD1, dc_35, ds_36, hLd, hdc_35, hds_36⟩ := hB9
  rw [ht9] at hLd
  refine W_tight (hL0.tr hLd).1 (hL0.tr hLd).2.1 ?_
  clear hL0 hLd
  have hP : va_P (gD g) cl0 ws_32 H1 := by rw [← ht9]; exact hP1
  have hD : va_D A ws_32 := hD1.weaken (fun _ _ _ h => hFc _ h)
  obtain ⟨hw9, xp_37, xp_38⟩ := hw9
  clear hP1 hD1 hz9 hk9 hvm9 ht9 hw9
  generalize H1 = H at hP hS ⊢
  have o_h0 := E_33.1 _ _ o_h0
  refine W_led (fun hLd => ?_)
  have hcl : 0 + dc_5 + dc_16 + dc_35 + PC ws_32 ≤ PC ws + (0) := (by omega)
  have hsl : 0 + ds_6 + ds_17 + ds_36 + PS ws_32 ≤ PS ws + (0) := (by omega)
  refine W.widen (k := PC ws + (0)) (n := PS ws + (0)) (by omega) (by omega) ?_
  have tq_39 : wcP ws_32 h0 0 (wb) (5) := wcP_le (by have e0 : (0 : Int32).toInt = 0 := (by decide); have e09 : (0 : Int32).toInt = 0 := rfl; omega) (by have q_pwc := pwc; have e09 : (0 : Int32).toInt = 0 := rfl; omega) (by have e5 : (5 : Int32).toInt = 5 := (by decide); have e09 : (0 : Int32).toInt = 0 := rfl; omega) xp_38
  exact W.iret (v := r_31) hx hb hr (fun t9 ht9 hW9 => ⟨⟨_, ws_32, rfl, ⟨trivial, xp_37, tq_39⟩, ⟨(E_3.tr (E_14.tr E_33)), (gF.tr (gF.mo (F' := [(0, 0), (0, 1), (10, 5), (10, 6)]) (C' := [(0, 0), (6, 0), (10, 3), (10, 4)]) (S' := none) Fr_4 (by decide) (by decide) (Or.inr rfl)) (gF.tr (gF.mo (F' := [(0, 0), (0, 1), (10, 5), (10, 6)]) (C' := [(0, 0), (6, 0), (10, 3), (10, 4)]) (S' := none) Fr_15 (by decide) (by decide) (Or.inl rfl)) Fr_34)), hG, by rw [ht9]; exact hP, hD, _, _, by rw [ht9]; exact hLd, hcl, hsl⟩⟩, hS.F ht9⟩) hS.2.2 dX11_intEntry_17
set_option maxHeartbeats 1000000 in
set_option maxRecDepth 100000 in
theorem m_X11_longEntry (l : Launch) (g : Gm) (H0 : Heap) (ws : va_W) (h0 : Nat) (y1 : Int64) (wb : Int) (wc : Int) (hG : Good g ws) (o_h0 : gC ws h0 10) (tk0 : enP g ws h0) (tk1 : wcP ws h0 0 wb wc) (pwc : 0 ≤ wb ∧ 0 ≤ wc ∧ (wb) ≤ 131072 ∧ (9) ≤ 131072) : Met l yX11_longEntry (wt yX11_longEntry cX11_longEntry 3 (some .int)) ({ frames := 5, cells := PC ws + (0), slots := PS ws + (0), locals := 125 }) (va_Pc [.ref h0, .long y1] (st_H g H0 ws)) (va_Qi (fun (r : Int32) (u9 : va_W) => (True) ∧ (enP g u9 h0) ∧ (wcP u9 h0 0 (wb) (9))) (gQ2 g [(0, 0), (0, 1), (10, 5), (10, 6)] [(0, 0), (6, 0), (10, 3), (10, 4)] none (va_A ws H0.size) ws H0 (0) (0)) (va_A ws H0.size)) (PC ws + (0)) (PS ws + (0)) (va_A ws H0.size) := by
  refine Met.ofW (cc := cX11_longEntry) (maxL := 3) (ret := (some .int)) (by decide) rfl ?_
  intro p e s m args below meth c s₁ B hml hv
  obtain ⟨rfl, hH0, hsz, hP, hK, hD0, hex, hE⟩ := hv
  have hx := B.exec
  have hb := B.bytes
  have hr := B.returns
  have hts0 := atoms_spec (ws := wt yX11_longEntry cX11_longEntry 3 (some .int)) B.pre
  have hts : ∀ w ∈ tb, w.before _ s = true := fun w h => hts0 w (List.mem_cons_of_mem _ h)
  have hown : s.vm.findClass RX11 = some m.cls := findClass_of_methodNamed B.named
  subst hH0
  have hD := hD0.self (sz := s.heap.size)
  generalize hAe : va_A ws s.heap.size = A at hD hE ⊢
  have hA : ∀ q : Nat, s.heap.size ≤ q → A q := fun q h => by rw [← hAe]; exact Or.inr h
  have hS : va_S A s.heap s.heap [] := va_S.rf
  have hl := lv_entry ([.ref h0, .long y1]) (n := 3) (Nat.le_of_ble_eq_true rfl)
  rw [lg_entry_eq]
  generalize (lg_sl ([.ref h0, .long y1]) ++ List.replicate (3 - (lg_sl ([.ref h0, .long y1])).length) Slot.unset).toArray = ls at hl ⊢
  have hl : lv_has ls 3 [(0, .ref h0), (1, .long y1)] := hl
  refine lv_aload_n hx hb dX11_longEntry_0 rfl (lv_at hl 0 rfl) ?_
  refine lv_iconst (v := 5) hx hb dX11_longEntry_1 (by decide) ?_
  have hFc := gfree hD hS hA
  refine W_led (fun hL0 => ?_)
  obtain ⟨k_1, fs_1, hk_1⟩ := gC_of o_h0
  refine va_callv (va_runV (As := [.int 5]) (rest := []) ⟨hx, hb, hml, hown, hts⟩ (m_X11_want_x l g s.heap ws h0 (5) wb wc hG o_h0 tk1 (by have q_pwc := pwc; omega)) (cwV 1 hts (gd_V kw_138 kw_275 kw_276 kw_83 kw_274) rfl rfl rfl (by decide +kernel) ⟨Nat.le_of_ble_eq_true rfl, Nat.le_of_ble_eq_true rfl⟩) ⟨gblindH, va_recv hK hP (ci := 10) (q0 := k_1) rfl hk_1, fun U hU hW9 => gmkH hU hW9 hP hK hD hex hE hS hFc⟩ rfl rfl hl.1 rfl (lv_room (Nat.le_of_ble_eq_true rfl)) dX11_longEntry_2 ⟨(show 0 + (PC ws + (0)) ≤ PC ws + (0) from (by have e0 : (0 : Int32).toInt = 0 := (by decide); omega)), (show 0 + (PS ws + (0)) ≤ PS ws + (0) from (by have e0 : (0 : Int32).toInt = 0 := (by decide); omega))⟩) hS (fun q _ h => hFc q h) hFc (fun  ws_2 t9 H1 locs ht9 hvm9 hw9 hB9 hz9 hk9 hS => ?_)
  obtain ⟨E_3, Fr_4, hG, hP1, hD1, dc_5, ds_6, hLd, hdc_5, hds_6⟩ := hB9
  rw [ht9] at hLd
  refine W_tight (hL0.tr hLd).1 (hL0.tr hLd).2.1 ?_
  clear hL0 hLd
  have hP : va_P (gD g) cl0 ws_2 H1 := by rw [← ht9]; exact hP1
  have hD : va_D A ws_2 := hD1.weaken (fun _ _ _ h => hFc _ h)
  obtain ⟨hw9, xp_7⟩ := hw9
  clear hP1 hD1 hz9 hk9 hvm9 ht9 hw9
  generalize H1 = H at hP hS ⊢
  have o_h0 := E_3.1 _ _ o_h0
  refine lv_aload_n hx hb dX11_longEntry_5 rfl (lv_at hl 0 rfl) ?_
  obtain ⟨k_8, fs9, hk_8⟩ := gC_of o_h0
  obtain ⟨r0_8, r1_8, r2_8, r3_8, n3_8, r4_8, n4_8, c5_8, c6_8, v7_8, c8_8, c9_8, r10_8, n10_8, r11_8, n11_8, r12_8, n12_8, r13_8, n13_8, r14_8, v15_8, r16_8, n16_8, r17_8, n17_8, rfl, o_r0_8, o_r1_8, o_r2_8, a_r3_8, f4_8, a_r4_8, f6_8, hz_c6_8, o_v7_8, a_r10_8, f10_8, a_r11_8, f12_8, a_r12_8, f14_8, a_r13_8, f16_8, o_r14_8, o_v15_8, a_r16_8, f20_8, a_r17_8, f22_8, f23_8, f24_8, f25_8, f26_8, f27_8, f28_8, -⟩ := (hG.1 _ _ _ _ hk_8).hX11 rfl
  refine va_get (D := gD g) (ci := 10) (v := .ref r2_8) (C := RX11) (T := TX11) (N := 18) hx hb hts inX11 hown hK hP k_8 hk_8 rfl 2 (by decide) (hts _ kw_139) (fun _ h9 => h9) rfl dX11_longEntry_6 ?_
  refine lv_lload_n hx hb dX11_longEntry_9 rfl (lv_at hl 1 rfl) ?_
  refine lv_bipush (v := 32) hx hb dX11_longEntry_10 (by decide) ?_
  refine lv_lshr hx hb dX11_longEntry_12 rfl ?_
  refine lv_topl (fun z_9 ez_9 => ?_)
  obtain ⟨z_10, ez_10⟩ : ∃ y : Int32, (z_9 : Int64).toInt32 = y := ⟨_, rfl⟩
  refine lv_l2i (v := z_10) hx hb dX11_longEntry_13 ez_10 ?_
  obtain ⟨k_11, fs9, hk_11⟩ := gC_of o_r2_8
  obtain ⟨r0_11, n0_11, c1_11, rfl, a_r0_11, f1_11, f2_11, f3_11, f4_11, f5_11, -⟩ := (hG.1 _ _ _ _ hk_11).hX0 rfl
  have wb_12 : c1_11.toInt ≤ (1) := wcP_u2 hD hk_8 rfl hk_11 rfl xp_7
  have hkW := hk_8
  have hDW := hD
  have hFc := gfree hD hS hA
  have pg_13 := ge_10_17 hD hk_8 rfl a_r17_8
  have pg_14 := ge_0_0 hD hk_11 rfl a_r0_11
  refine W_led (fun hL0 => ?_)
  refine va_callv (va_runV (As := [.int z_10]) (rest := []) ⟨hx, hb, hml, hown, hts⟩ (m_X0_put4 l g H ws_2 r2_8 (z_10) (c1_11) hG o_r2_8 (gP_of hD hk_11 (fun q90 e90 => by cases e90; exact (by have q_f2_11 := f2_11; have q_f3_11 := f3_11; have q_wb_12 := wb_12; have q_f1_11 := f1_11; have q_f4_11 := f4_11; have q_f5_11 := f5_11; have g_c1_11 := i_rg c1_11; omega))) (gP_of hD hk_11 (fun q90 e90 => by cases e90; exact (by have q_f2_11 := f2_11; have q_f3_11 := f3_11; have q_wb_12 := wb_12; have q_f1_11 := f1_11; have q_f4_11 := f4_11; have q_f5_11 := f5_11; have g_c1_11 := i_rg c1_11; omega)))) (cwV 1 hts (gd_V kw_98 kw_21 kw_22 kw_3 kw_20) rfl rfl rfl (by decide +kernel) ⟨Nat.le_of_ble_eq_true rfl, Nat.le_of_ble_eq_true rfl⟩) ⟨gblindH, va_recv hK hP (ci := 0) (q0 := k_11) rfl hk_11, fun U hU hW9 => gmkH hU hW9 hP hK hD hex hE hS hFc⟩ rfl rfl hl.1 rfl (lv_room (Nat.le_of_ble_eq_true rfl)) dX11_longEntry_14 ⟨(show 0 + dc_5 + (PC ws_2 + (0)) ≤ PC ws + (0) from (by have e0 : (0 : Int32).toInt = 0 := (by decide); omega)), (show 0 + ds_6 + (PS ws_2 + (0)) ≤ PS ws + (0) from (by have e0 : (0 : Int32).toInt = 0 := (by decide); omega))⟩) hS (fun q _ h => hFc q h) hFc (fun  ws_15 t9 H1 locs ht9 hvm9 hw9 hB9 hz9 hk9 hS => ?_)
  obtain ⟨E_16, Fr_17, hG, hP1, hD1, dc_18, ds_19, hLd, hdc_18, hds_19⟩ := hB9
  rw [ht9] at hLd
  refine W_tight (hL0.tr hLd).1 (hL0.tr hLd).2.1 ?_
  clear hL0 hLd
  have hP : va_P (gD g) cl0 ws_15 H1 := by rw [← ht9]; exact hP1
  have hD : va_D A ws_15 := hD1.weaken (fun _ _ _ h => hFc _ h)
  have kf_20 := hw9
  clear hP1 hD1 hz9 hk9 hvm9 ht9 hw9
  generalize H1 = H at hP hS ⊢
  have aa_21 := a_r3_8
  have aa_22 := a_r4_8
  have aa_23 := a_r10_8
  have aa_24 := a_r11_8
  have aa_25 := a_r12_8
  have aa_26 := a_r13_8
  have aa_27 := a_r16_8
  have aa_28 := a_r17_8
  have aa_29 := a_r0_11
  have o_h0 := E_16.1 _ _ o_h0
  have tq_30 : wcP ws_15 h0 0 (wb) ((1) + 4) := wcP_2 hDW hG Fr_17 (by decide) (by decide) (by decide) (by decide) hkW rfl (fun k9 ci9 fs9 h9 c9 e9 => by have w9 := kf_20 _ _ _ h9 c9 e9; omega) xp_7
  refine lv_aload_n hx hb dX11_longEntry_17 rfl (lv_at hl 0 rfl) ?_
  obtain ⟨fs9, hk_31, hq_31⟩ := ((gF.a (F' := [(0, 0), (0, 1)]) Fr_17 (fun _ h => h))) _ _ _ hk_8
  obtain ⟨r0_31, r1_31, r2_31, r3_31, n3_31, r4_31, n4_31, c5_31, c6_31, v7_31, c8_31, c9_31, r10_31, n10_31, r11_31, n11_31, r12_31, n12_31, r13_31, n13_31, r14_31, v15_31, r16_31, n16_31, r17_31, n17_31, rfl, o_r0_31, o_r1_31, o_r2_31, a_r3_31, f4_31, a_r4_31, f6_31, hz_c6_31, o_v7_31, a_r10_31, f10_31, a_r11_31, f12_31, a_r12_31, f14_31, a_r13_31, f16_31, o_r14_31, o_v15_31, a_r16_31, f20_31, a_r17_31, f22_31, f23_31, f24_31, f25_31, f26_31, f27_31, f28_31, -⟩ := (hG.1 _ _ _ _ hk_31).hX11 rfl
  obtain rfl := fe_r (hq_31 2 (by decide))
  have o_r2_8 := o_r2_31
  obtain rfl := fe_q (hq_31 7 (by decide))
  have o_v7_8 := o_v7_31
  obtain rfl := fe_q (hq_31 15 (by decide))
  have o_v15_8 := o_v15_31
  refine va_get (D := gD g) (ci := 10) (v := .ref r2_8) (C := RX11) (T := TX11) (N := 18) hx hb hts inX11 hown hK hP k_8 hk_31 rfl 2 (by decide) (hts _ kw_139) (fun _ h9 => h9) rfl dX11_longEntry_18 ?_
  refine lv_lload_n hx hb dX11_longEntry_21 rfl (lv_at hl 1 rfl) ?_
  obtain ⟨z_32, ez_32⟩ : ∃ y : Int32, (y1 : Int64).toInt32 = y := ⟨_, rfl⟩
  refine lv_l2i (v := z_32) hx hb dX11_longEntry_22 ez_32 ?_
  obtain ⟨fs9, hk_33, hq_33⟩ := ((gF.a (F' := [(0, 0), (0, 1)]) Fr_17 (fun _ h => h))) _ _ _ hk_11
  obtain ⟨r0_33, n0_33, c1_33, rfl, a_r0_33, f1_33, f2_33, f3_33, f4_33, f5_33, -⟩ := (hG.1 _ _ _ _ hk_33).hX0 rfl
  have kq_34 := kf_20 _ _ _ hk_33 _ rfl
  have wb_35 : c1_33.toInt ≤ ((1) + 4) := wcP_u2 hD hk_31 rfl hk_33 rfl tq_30
  have hkW := hk_31
  have hDW := hD
  have hFc := gfree hD hS hA
  have pg_36 := ge_10_17 hD hk_31 rfl a_r17_31
  have pg_37 := ge_0_0 hD hk_33 rfl a_r0_33
  refine W_led (fun hL0 => ?_)
  refine va_callv (va_runV (As := [.int z_32]) (rest := []) ⟨hx, hb, hml, hown, hts⟩ (m_X0_put4 l g H ws_15 r2_8 (z_32) (c1_33) hG o_r2_8 (gP_of hD hk_33 (fun q90 e90 => by cases e90; exact (by have q_f2_33 := f2_33; have q_f3_33 := f3_33; have q_kq_34 := kq_34; have q_wb_35 := wb_35; have q_f2_11 := f2_11; have q_f3_11 := f3_11; have q_wb_12 := wb_12; have q_f1_33 := f1_33; have q_f4_33 := f4_33; have q_f5_33 := f5_33; have q_f1_11 := f1_11; have q_f4_11 := f4_11; have q_f5_11 := f5_11; have g_c1_11 := i_rg c1_11; have g_c1_33 := i_rg c1_33; omega))) (gP_of hD hk_33 (fun q90 e90 => by cases e90; exact (by have q_f2_33 := f2_33; have q_f3_33 := f3_33; have q_kq_34 := kq_34; have q_wb_35 := wb_35; have q_f2_11 := f2_11; have q_f3_11 := f3_11; have q_wb_12 := wb_12; have q_f1_33 := f1_33; have q_f4_33 := f4_33; have q_f5_33 := f5_33; have q_f1_11 := f1_11; have q_f4_11 := f4_11; have q_f5_11 := f5_11; have g_c1_11 := i_rg c1_11; have g_c1_33 := i_rg c1_33; omega)))) (cwV 1 hts (gd_V kw_98 kw_21 kw_22 kw_3 kw_20) rfl rfl rfl (by decide +kernel) ⟨Nat.le_of_ble_eq_true rfl, Nat.le_of_ble_eq_true rfl⟩) ⟨gblindH, va_recv hK hP (ci := 0) (q0 := k_11) rfl hk_33, fun U hU hW9 => gmkH hU hW9 hP hK hD hex hE hS hFc⟩ rfl rfl hl.1 rfl (lv_room (Nat.le_of_ble_eq_true rfl)) dX11_longEntry_23 ⟨(show 0 + dc_5 + dc_18 + (PC ws_15 + (0)) ≤ PC ws + (0) from (by have e0 : (0 : Int32).toInt = 0 := (by decide); omega)), (show 0 + ds_6 + ds_19 + (PS ws_15 + (0)) ≤ PS ws + (0) from (by have e0 : (0 : Int32).toInt = 0 := (by decide); omega))⟩) hS (fun q _ h => hFc q h) hFc (fun  ws_38 t9 H1 locs ht9 hvm9 hw9 hB9 hz9 hk9 hS => ?_)
  obtain ⟨E_39, Fr_40, hG, hP1, hD1, dc_41, ds_42, hLd, hdc_41, hds_42⟩ := hB9
  rw [ht9] at hLd
  refine W_tight (hL0.tr hLd).1 (hL0.tr hLd).2.1 ?_
  clear hL0 hLd
  have hP : va_P (gD g) cl0 ws_38 H1 := by rw [← ht9]; exact hP1
  have hD : va_D A ws_38 := hD1.weaken (fun _ _ _ h => hFc _ h)
  have kf_43 := hw9
  clear hP1 hD1 hz9 hk9 hvm9 ht9 hw9
  generalize H1 = H at hP hS ⊢
  have aa_44 := a_r3_31
  have aa_45 := a_r4_31
  have aa_46 := a_r10_31
  have aa_47 := a_r11_31
  have aa_48 := a_r12_31
  have aa_49 := a_r13_31
  have aa_50 := a_r16_31
  have aa_51 := a_r17_31
  have aa_52 := a_r0_33
  have o_h0 := E_39.1 _ _ o_h0
  have tq_53 : wcP ws_38 h0 0 (wb) (((1) + 4) + 4) := wcP_2 hDW hG Fr_40 (by decide) (by decide) (by decide) (by decide) hkW rfl (fun k9 ci9 fs9 h9 c9 e9 => by have w9 := kf_43 _ _ _ h9 c9 e9; omega) tq_30
  refine lv_aload_n hx hb dX11_longEntry_26 rfl (lv_at hl 0 rfl) ?_
  have tq_54 : enP g ws_38 h0 := enP_mo ((gF.tr Fr_4 (gF.tr (gF.mo (F' := [(0, 0), (0, 1)]) (C' := [(0, 0), (6, 0)]) (S' := none) Fr_17 (fun _ h => h) (fun _ h => h) (Or.inl rfl)) (gF.mo (F' := [(0, 0), (0, 1)]) (C' := [(0, 0), (6, 0)]) (S' := none) Fr_40 (fun _ h => h) (fun _ h => h) (Or.inl rfl))))) (by decide) (by decide) (by decide) tk0
  have hFc := gfree hD hS hA
  refine W_led (fun hL0 => ?_)
  obtain ⟨k_55, fs_55, hk_55⟩ := gC_of o_h0
  refine va_calli (va_runV (As := []) (rest := []) ⟨hx, hb, hml, hown, hts⟩ (m_X11_entryOfWanted l g H ws_38 h0 (wb) (((1) + 4) + 4) hG o_h0 tq_54 tq_53 (by omega) (by have q_pwc := pwc; omega)) (cwV 0 hts (gd_V kw_141 kw_143 kw_144 kw_83 kw_142) rfl rfl rfl (by decide +kernel) ⟨Nat.le_of_ble_eq_true rfl, Nat.le_of_ble_eq_true rfl⟩) ⟨gblindH, va_recv hK hP (ci := 10) (q0 := k_55) rfl hk_55, fun U hU hW9 => gmkH hU hW9 hP hK hD hex hE hS hFc⟩ rfl rfl hl.1 rfl (lv_room (Nat.le_of_ble_eq_true rfl)) dX11_longEntry_27 ⟨(show 0 + dc_5 + dc_18 + dc_41 + (PC ws_38 + (0)) ≤ PC ws + (0) from (by have e0 : (0 : Int32).toInt = 0 := (by decide); omega)), (show 0 + ds_6 + ds_19 + ds_42 + (PS ws_38 + (0)) ≤ PS ws + (0) from (by have e0 : (0 : Int32).toInt = 0 := (by decide); omega))⟩) hS (fun q _ h => hFc q h) hFc (fun r_56 ws_57 t9 H1 locs ht9 hvm9 hw9 hB9 hz9 hk9 hS => ?_)
  obtain ⟨E_58, Fr_59, hG, hP1, hD1, dc_60, ds_61, hLd, hdc_60, hds_61⟩ := hB9
  rw [ht9] at hLd
  refine W_tight (hL0.tr hLd).1 (hL0.tr hLd).2.1 ?_
  clear hL0 hLd
  have hP : va_P (gD g) cl0 ws_57 H1 := by rw [← ht9]; exact hP1
  have hD : va_D A ws_57 := hD1.weaken (fun _ _ _ h => hFc _ h)
  obtain ⟨hw9, xp_62, xp_63⟩ := hw9
  clear hP1 hD1 hz9 hk9 hvm9 ht9 hw9
  generalize H1 = H at hP hS ⊢
  have o_h0 := E_58.1 _ _ o_h0
  refine W_led (fun hLd => ?_)
  have hcl : 0 + dc_5 + dc_18 + dc_41 + dc_60 + PC ws_57 ≤ PC ws + (0) := (by omega)
  have hsl : 0 + ds_6 + ds_19 + ds_42 + ds_61 + PS ws_57 ≤ PS ws + (0) := (by omega)
  refine W.widen (k := PC ws + (0)) (n := PS ws + (0)) (by omega) (by omega) ?_
  have tq_64 : wcP ws_57 h0 0 (wb) (9) := wcP_le (by have e0 : (0 : Int32).toInt = 0 := (by decide); have e09 : (0 : Int32).toInt = 0 := rfl; omega) (by have q_pwc := pwc; have e09 : (0 : Int32).toInt = 0 := rfl; omega) (by have e9 : (9 : Int32).toInt = 9 := (by decide); have e09 : (0 : Int32).toInt = 0 := rfl; omega) xp_63
  exact W.iret (v := r_56) hx hb hr (fun t9 ht9 hW9 => ⟨⟨_, ws_57, rfl, ⟨trivial, xp_62, tq_64⟩, ⟨(E_3.tr (E_16.tr (E_39.tr E_58))), (gF.tr (gF.mo (F' := [(0, 0), (0, 1), (10, 5), (10, 6)]) (C' := [(0, 0), (6, 0), (10, 3), (10, 4)]) (S' := none) Fr_4 (by decide) (by decide) (Or.inr rfl)) (gF.tr (gF.mo (F' := [(0, 0), (0, 1), (10, 5), (10, 6)]) (C' := [(0, 0), (6, 0), (10, 3), (10, 4)]) (S' := none) Fr_17 (by decide) (by decide) (Or.inl rfl)) (gF.tr (gF.mo (F' := [(0, 0), (0, 1), (10, 5), (10, 6)]) (C' := [(0, 0), (6, 0), (10, 3), (10, 4)]) (S' := none) Fr_40 (by decide) (by decide) (Or.inl rfl)) Fr_59))), hG, by rw [ht9]; exact hP, hD, _, _, by rw [ht9]; exact hLd, hcl, hsl⟩⟩, hS.F ht9⟩) hS.2.2 dX11_longEntry_30
set_option maxHeartbeats 1000000 in
set_option maxRecDepth 100000 in
theorem m_X11_textEntry (l : Launch) (g : Gm) (H0 : Heap) (ws : va_W) (h0 : Nat) (b1 : Nat) (n_b1 : Nat) (wb : Int) (wc : Int) (hG : Good g ws) (o_h0 : gC ws h0 10) (t_b1 : gT g b1 n_b1) (tk0 : enP g ws h0) (tk1 : wcP ws h0 0 wb wc) (pwc : 0 ≤ wb ∧ 0 ≤ wc ∧ (wb) ≤ 131072 ∧ (14) ≤ 131072) : Met l yX11_textEntry (wt yX11_textEntry cX11_textEntry 3 (some .int)) ({ frames := 4, cells := PC ws + (0), slots := PS ws + (0), locals := 106 }) (va_Pc [.ref h0, .ref b1] (st_H g H0 ws)) (va_Qi (fun (r : Int32) (u9 : va_W) => (True) ∧ (enP g u9 h0) ∧ (wcP u9 h0 0 (wb) (14))) (gQ2 g [(0, 0), (0, 1), (10, 5), (10, 6)] [(0, 0), (6, 0), (10, 3), (10, 4)] none (va_A ws H0.size) ws H0 (0) (0)) (va_A ws H0.size)) (PC ws + (0)) (PS ws + (0)) (va_A ws H0.size) := by
  refine Met.ofW (cc := cX11_textEntry) (maxL := 3) (ret := (some .int)) (by decide) rfl ?_
  intro p e s m args below meth c s₁ B hml hv
  obtain ⟨rfl, hH0, hsz, hP, hK, hD0, hex, hE⟩ := hv
  have hx := B.exec
  have hb := B.bytes
  have hr := B.returns
  have hts0 := atoms_spec (ws := wt yX11_textEntry cX11_textEntry 3 (some .int)) B.pre
  have hts : ∀ w ∈ tb, w.before _ s = true := fun w h => hts0 w (List.mem_cons_of_mem _ h)
  have hown : s.vm.findClass RX11 = some m.cls := findClass_of_methodNamed B.named
  subst hH0
  have hD := hD0.self (sz := s.heap.size)
  generalize hAe : va_A ws s.heap.size = A at hD hE ⊢
  have hA : ∀ q : Nat, s.heap.size ≤ q → A q := fun q h => by rw [← hAe]; exact Or.inr h
  have hS : va_S A s.heap s.heap [] := va_S.rf
  have hl := lv_entry ([.ref h0, .ref b1]) (n := 3) (Nat.le_of_ble_eq_true rfl)
  rw [lg_entry_eq]
  generalize (lg_sl ([.ref h0, .ref b1]) ++ List.replicate (3 - (lg_sl ([.ref h0, .ref b1])).length) Slot.unset).toArray = ls at hl ⊢
  have hl : lv_has ls 3 [(0, .ref h0), (1, .ref b1)] := hl
  refine lv_aload_n hx hb dX11_textEntry_0 rfl (lv_at hl 0 rfl) ?_
  refine lv_iconst (v := 1) hx hb dX11_textEntry_1 (by decide) ?_
  have hFc := gfree hD hS hA
  refine W_led (fun hL0 => ?_)
  obtain ⟨k_1, fs_1, hk_1⟩ := gC_of o_h0
  refine va_callv (va_runV (As := [.int 1]) (rest := []) ⟨hx, hb, hml, hown, hts⟩ (m_X11_want_x l g s.heap ws h0 (1) wb wc hG o_h0 tk1 (by have q_pwc := pwc; omega)) (cwV 1 hts (gd_V kw_138 kw_275 kw_276 kw_83 kw_274) rfl rfl rfl (by decide +kernel) ⟨Nat.le_of_ble_eq_true rfl, Nat.le_of_ble_eq_true rfl⟩) ⟨gblindH, va_recv hK hP (ci := 10) (q0 := k_1) rfl hk_1, fun U hU hW9 => gmkH hU hW9 hP hK hD hex hE hS hFc⟩ rfl rfl hl.1 rfl (lv_room (Nat.le_of_ble_eq_true rfl)) dX11_textEntry_2 ⟨(show 0 + (PC ws + (0)) ≤ PC ws + (0) from (by have e0 : (0 : Int32).toInt = 0 := (by decide); omega)), (show 0 + (PS ws + (0)) ≤ PS ws + (0) from (by have e0 : (0 : Int32).toInt = 0 := (by decide); omega))⟩) hS (fun q _ h => hFc q h) hFc (fun  ws_2 t9 H1 locs ht9 hvm9 hw9 hB9 hz9 hk9 hS => ?_)
  obtain ⟨E_3, Fr_4, hG, hP1, hD1, dc_5, ds_6, hLd, hdc_5, hds_6⟩ := hB9
  rw [ht9] at hLd
  refine W_tight (hL0.tr hLd).1 (hL0.tr hLd).2.1 ?_
  clear hL0 hLd
  have hP : va_P (gD g) cl0 ws_2 H1 := by rw [← ht9]; exact hP1
  have hD : va_D A ws_2 := hD1.weaken (fun _ _ _ h => hFc _ h)
  obtain ⟨hw9, xp_7⟩ := hw9
  clear hP1 hD1 hz9 hk9 hvm9 ht9 hw9
  generalize H1 = H at hP hS ⊢
  have o_h0 := E_3.1 _ _ o_h0
  refine lv_aload_n hx hb dX11_textEntry_5 rfl (lv_at hl 0 rfl) ?_
  obtain ⟨k_8, fs9, hk_8⟩ := gC_of o_h0
  obtain ⟨r0_8, r1_8, r2_8, r3_8, n3_8, r4_8, n4_8, c5_8, c6_8, v7_8, c8_8, c9_8, r10_8, n10_8, r11_8, n11_8, r12_8, n12_8, r13_8, n13_8, r14_8, v15_8, r16_8, n16_8, r17_8, n17_8, rfl, o_r0_8, o_r1_8, o_r2_8, a_r3_8, f4_8, a_r4_8, f6_8, hz_c6_8, o_v7_8, a_r10_8, f10_8, a_r11_8, f12_8, a_r12_8, f14_8, a_r13_8, f16_8, o_r14_8, o_v15_8, a_r16_8, f20_8, a_r17_8, f22_8, f23_8, f24_8, f25_8, f26_8, f27_8, f28_8, -⟩ := (hG.1 _ _ _ _ hk_8).hX11 rfl
  refine va_get (D := gD g) (ci := 10) (v := .ref r2_8) (C := RX11) (T := TX11) (N := 18) hx hb hts inX11 hown hK hP k_8 hk_8 rfl 2 (by decide) (hts _ kw_139) (fun _ h9 => h9) rfl dX11_textEntry_6 ?_
  refine lv_aload_n hx hb dX11_textEntry_9 rfl (lv_at hl 1 rfl) ?_
  have hFc := gfree hD hS hA
  obtain ⟨i_9, hi_9, e_9, en_9⟩ := id t_b1
  refine va_calli (va_runV (As := []) (rest := [.ref r2_8]) ⟨hx, hb, hml, hown, hts⟩ (m_J0_length_8abf5 l g H.size ws_2 b1 (n_b1) hG t_b1) (cwV 0 hts (gd_V kw_268 kw_1752 kw_1753 kw_1754 kw_1751) rfl rfl rfl (by decide +kernel) ⟨Nat.le_of_ble_eq_true rfl, Nat.le_of_ble_eq_true rfl⟩) ⟨gblind, (by rw [e_9]; exact vk_recv hE.2.2.2.2.2.2.1 hi_9 hS), fun U hU hW9 => gmk hU hW9 hP hK hD hex hE hS hFc⟩ rfl rfl hl.1 rfl (lv_room (Nat.le_of_ble_eq_true rfl)) dX11_textEntry_10 ⟨(show 0 + dc_5 + 0 ≤ PC ws + (0) from (by omega)), (show 0 + ds_6 + 0 ≤ PS ws + (0) from (by omega))⟩) hS (fun q _ h => hFc q h) hFc (fun r_10 u9 t9 H1 locs ht9 hvm9 hw9 hB9 hz9 hk9 hS => ?_)
  have hP : va_P (gD g) cl0 ws_2 H1 := by rw [← ht9]; exact hB9.1
  have h_r_10 := hw9
  clear hB9 hz9 hk9 hvm9 ht9 hw9
  generalize H1 = H at hP hS ⊢
  obtain ⟨k_11, fs9, hk_11⟩ := gC_of o_r2_8
  obtain ⟨r0_11, n0_11, c1_11, rfl, a_r0_11, f1_11, f2_11, f3_11, f4_11, f5_11, -⟩ := (hG.1 _ _ _ _ hk_11).hX0 rfl
  have wb_12 : c1_11.toInt ≤ (1) := wcP_u2 hD hk_8 rfl hk_11 rfl xp_7
  have hkW := hk_8
  have hDW := hD
  have hFc := gfree hD hS hA
  have pg_13 := ge_10_17 hD hk_8 rfl a_r17_8
  have pg_14 := ge_0_0 hD hk_11 rfl a_r0_11
  refine W_led (fun hL0 => ?_)
  refine va_callv (va_runV (As := [.int r_10]) (rest := []) ⟨hx, hb, hml, hown, hts⟩ (m_X0_put2 l g H ws_2 r2_8 (r_10) (c1_11) hG o_r2_8 (gP_of hD hk_11 (fun q90 e90 => by cases e90; exact (by have q_f2_11 := f2_11; have q_f3_11 := f3_11; have q_wb_12 := wb_12; have q_f1_11 := f1_11; have q_f4_11 := f4_11; have q_f5_11 := f5_11; have g_c1_11 := i_rg c1_11; omega))) (gP_of hD hk_11 (fun q90 e90 => by cases e90; exact (by have q_f2_11 := f2_11; have q_f3_11 := f3_11; have q_wb_12 := wb_12; have q_f1_11 := f1_11; have q_f4_11 := f4_11; have q_f5_11 := f5_11; have g_c1_11 := i_rg c1_11; omega)))) (cwV 1 hts (gd_V kw_96 kw_17 kw_18 kw_3 kw_16) rfl rfl rfl (by decide +kernel) ⟨Nat.le_of_ble_eq_true rfl, Nat.le_of_ble_eq_true rfl⟩) ⟨gblindH, va_recv hK hP (ci := 0) (q0 := k_11) rfl hk_11, fun U hU hW9 => gmkH hU hW9 hP hK hD hex hE hS hFc⟩ rfl rfl hl.1 rfl (lv_room (Nat.le_of_ble_eq_true rfl)) dX11_textEntry_13 ⟨(show 0 + dc_5 + (PC ws_2 + (0)) ≤ PC ws + (0) from (by have e0 : (0 : Int32).toInt = 0 := (by decide); omega)), (show 0 + ds_6 + (PS ws_2 + (0)) ≤ PS ws + (0) from (by have e0 : (0 : Int32).toInt = 0 := (by decide); omega))⟩) hS (fun q _ h => hFc q h) hFc (fun  ws_15 t9 H1 locs ht9 hvm9 hw9 hB9 hz9 hk9 hS => ?_)
  obtain ⟨E_16, Fr_17, hG, hP1, hD1, dc_18, ds_19, hLd, hdc_18, hds_19⟩ := hB9
  rw [ht9] at hLd
  refine W_tight (hL0.tr hLd).1 (hL0.tr hLd).2.1 ?_
  clear hL0 hLd
  have hP : va_P (gD g) cl0 ws_15 H1 := by rw [← ht9]; exact hP1
  have hD : va_D A ws_15 := hD1.weaken (fun _ _ _ h => hFc _ h)
  have kf_20 := hw9
  clear hP1 hD1 hz9 hk9 hvm9 ht9 hw9
  generalize H1 = H at hP hS ⊢
  have aa_21 := a_r3_8
  have aa_22 := a_r4_8
  have aa_23 := a_r10_8
  have aa_24 := a_r11_8
  have aa_25 := a_r12_8
  have aa_26 := a_r13_8
  have aa_27 := a_r16_8
  have aa_28 := a_r17_8
  have aa_29 := a_r0_11
  have o_h0 := E_16.1 _ _ o_h0
  have tq_30 : wcP ws_15 h0 0 (wb) ((1) + 2) := wcP_2 hDW hG Fr_17 (by decide) (by decide) (by decide) (by decide) hkW rfl (fun k9 ci9 fs9 h9 c9 e9 => by have w9 := kf_20 _ _ _ h9 c9 e9; omega) xp_7
  refine lv_iconst (v := 0) hx hb dX11_textEntry_16 (by decide) ?_
  refine lv_istore_n (lv' := [(2, .int 0), (0, .ref h0), (1, .ref b1)]) hx hb dX11_textEntry_17 rfl hl (by decide) rfl (fun ls hl => ?_)
  have J_18 : ∀ (n9 : Nat) (v2_31 : Int32) (dc_18_1 : Nat) (ds_18_1 : Nat) (ws_34 : va_W) (H : Heap) (locs : List Loc) (ls : Array Slot), (2147483647 - v2_31.toInt).toNat = n9 → 0 ≤ v2_31.toInt → v2_31.toInt ≤ 11 → gE ws_15 ws_34 → gF [(0, 0), (0, 1)] [(0, 0), (6, 0)] none ws_15 ws_34 → Good g ws_34 → dc_18_1 + PC ws_34 ≤ PC ws + (0) → ds_18_1 + PS ws_34 ≤ PS ws + (0) → wcP ws_34 h0 0 (wb) (3 + v2_31.toInt) → va_P (gD g) cl0 ws_34 H → va_D A ws_34 → va_S A s.heap H locs → lv_has ls 3 [(0, .ref h0), (1, .ref b1), (2, .int v2_31)] → W p l e (headSpec (wt yX11_textEntry cX11_textEntry 3 (some .int)) ({ frames := 4, cells := PC ws + (0), slots := PS ws + (0), locals := 106 })).room s m ([.ref h0, .ref b1] : List Value).toArray below meth c H locs (dc_18_1) (ds_18_1) (MQ below (va_Qi (fun (r : Int32) (u9 : va_W) => (True) ∧ (enP g u9 h0) ∧ (wcP u9 h0 0 (wb) (14))) (gQ2 g [(0, 0), (0, 1), (10, 5), (10, 6)] [(0, 0), (6, 0), (10, 3), (10, 4)] none A ws s.heap (0) (0)) A) ([.ref h0, .ref b1] : List Value).toArray s (PC ws + (0)) (PS ws + (0)) A) (F0 m 18 ls []) := by
    intro n9
    induction n9 using Nat.strongRecOn with
    | ind n9 ih_18 =>
      intro v2_31 dc_18_1 ds_18_1 ws_34 H locs ls hm9 iv_32 iv_33 E_35 Fr_36 hG hc9 hs9 jx_18_0 hP hD hS hl
      subst hm9
      have o_h0 := E_35.1 _ _ o_h0
      refine lv_iload_n hx hb dX11_textEntry_18 rfl (lv_at hl 2 rfl) ?_
      refine lv_aload_n hx hb dX11_textEntry_19 rfl (lv_at hl 1 rfl) ?_
      have hFc := gfree hD hS hA
      obtain ⟨i_37, hi_37, e_37, en_37⟩ := id t_b1
      refine va_calli (va_runV (As := []) (rest := [.int v2_31]) ⟨hx, hb, hml, hown, hts⟩ (m_J0_length_8abf5 l g H.size ws_34 b1 (n_b1) hG t_b1) (cwV 0 hts (gd_V kw_268 kw_1752 kw_1753 kw_1754 kw_1751) rfl rfl rfl (by decide +kernel) ⟨Nat.le_of_ble_eq_true rfl, Nat.le_of_ble_eq_true rfl⟩) ⟨gblind, (by rw [e_37]; exact vk_recv hE.2.2.2.2.2.2.1 hi_37 hS), fun U hU hW9 => gmk hU hW9 hP hK hD hex hE hS hFc⟩ rfl rfl hl.1 rfl (lv_room (Nat.le_of_ble_eq_true rfl)) dX11_textEntry_20 ⟨(show dc_18_1 + 0 ≤ PC ws + (0) from (by omega)), (show ds_18_1 + 0 ≤ PS ws + (0) from (by omega))⟩) hS (fun q _ h => hFc q h) hFc (fun r_38 u9 t9 H1 locs ht9 hvm9 hw9 hB9 hz9 hk9 hS => ?_)
      have hP : va_P (gD g) cl0 ws_34 H1 := by rw [← ht9]; exact hB9.1
      have h_r_38 := hw9
      clear hB9 hz9 hk9 hvm9 ht9 hw9
      generalize H1 = H at hP hS ⊢
      refine lv_icmp_ge (tgt := 44) hx hb dX11_textEntry_23 (by decide) (fun c_39 => ?_) (fun c_39 => ?_)
      · refine lv_aload_n hx hb dX11_textEntry_44 rfl (lv_at hl 0 rfl) ?_
        have tq_40 : enP g ws_34 h0 := enP_mo ((gF.tr Fr_4 (gF.tr (gF.mo (F' := [(0, 0), (0, 1)]) (C' := [(0, 0), (6, 0)]) (S' := none) Fr_17 (fun _ h => h) (fun _ h => h) (Or.inl rfl)) Fr_36))) (by decide) (by decide) (by decide) tk0
        have hFc := gfree hD hS hA
        refine W_led (fun hL0 => ?_)
        obtain ⟨k_41, fs_41, hk_41⟩ := gC_of o_h0
        refine va_calli (va_runV (As := []) (rest := []) ⟨hx, hb, hml, hown, hts⟩ (m_X11_entryOfWanted l g H ws_34 h0 (wb) (3 + v2_31.toInt) hG o_h0 tq_40 jx_18_0 (by have q_iv_32 := iv_32; have q_iv_33 := iv_33; have q_c_39 := i_le c_39; have q_r_38 := h_r_38; have q_t_b1 := gT_le t_b1; have q_r_10 := h_r_10; have g_r_10 := i_rg r_10; have g_r_38 := i_rg r_38; have g_v2_31 := i_rg v2_31; omega) (by have q_pwc := pwc; have q_iv_32 := iv_32; have q_iv_33 := iv_33; have q_c_39 := i_le c_39; have q_r_38 := h_r_38; have q_t_b1 := gT_le t_b1; have q_r_10 := h_r_10; have g_r_10 := i_rg r_10; have g_r_38 := i_rg r_38; have g_v2_31 := i_rg v2_31; omega)) (cwV 0 hts (gd_V kw_141 kw_143 kw_144 kw_83 kw_142) rfl rfl rfl (by decide +kernel) ⟨Nat.le_of_ble_eq_true rfl, Nat.le_of_ble_eq_true rfl⟩) ⟨gblindH, va_recv hK hP (ci := 10) (q0 := k_41) rfl hk_41, fun U hU hW9 => gmkH hU hW9 hP hK hD hex hE hS hFc⟩ rfl rfl hl.1 rfl (lv_room (Nat.le_of_ble_eq_true rfl)) dX11_textEntry_45 ⟨(show dc_18_1 + (PC ws_34 + (0)) ≤ PC ws + (0) from (by have e0 : (0 : Int32).toInt = 0 := (by decide); omega)), (show ds_18_1 + (PS ws_34 + (0)) ≤ PS ws + (0) from (by have e0 : (0 : Int32).toInt = 0 := (by decide); omega))⟩) hS (fun q _ h => hFc q h) hFc (fun r_42 ws_43 t9 H1 locs ht9 hvm9 hw9 hB9 hz9 hk9 hS => ?_)
        obtain ⟨E_44, Fr_45, hG, hP1, hD1, dc_46, ds_47, hLd, hdc_46, hds_47⟩ := hB9
        rw [ht9] at hLd
        refine W_tight (hL0.tr hLd).1 (hL0.tr hLd).2.1 ?_
        clear hL0 hLd
        have hP : va_P (gD g) cl0 ws_43 H1 := by rw [← ht9]; exact hP1
        have hD : va_D A ws_43 := hD1.weaken (fun _ _ _ h => hFc _ h)
        obtain ⟨hw9, xp_48, xp_49⟩ := hw9
        clear hP1 hD1 hz9 hk9 hvm9 ht9 hw9
        generalize H1 = H at hP hS ⊢
        have o_h0 := E_44.1 _ _ o_h0
        refine W_led (fun hLd => ?_)
        have hcl : dc_18_1 + dc_46 + PC ws_43 ≤ PC ws + (0) := (by omega)
        have hsl : ds_18_1 + ds_47 + PS ws_43 ≤ PS ws + (0) := (by omega)
        refine W.widen (k := PC ws + (0)) (n := PS ws + (0)) (by omega) (by omega) ?_
        have tq_50 : wcP ws_43 h0 0 (wb) (14) := wcP_le (by have e0 : (0 : Int32).toInt = 0 := (by decide); have e09 : (0 : Int32).toInt = 0 := rfl; omega) (by have q_pwc := pwc; have e09 : (0 : Int32).toInt = 0 := rfl; omega) (by have e14 : (14 : Int32).toInt = 14 := (by decide); have q_iv_32 := iv_32; have q_iv_33 := iv_33; have q_c_39 := i_le c_39; have q_r_38 := h_r_38; have q_t_b1 := gT_le t_b1; have q_r_10 := h_r_10; have g_r_10 := i_rg r_10; have g_r_38 := i_rg r_38; have g_v2_31 := i_rg v2_31; have e09 : (0 : Int32).toInt = 0 := rfl; omega) xp_49
        exact W.iret (v := r_42) hx hb hr (fun t9 ht9 hW9 => ⟨⟨_, ws_43, rfl, ⟨trivial, xp_48, tq_50⟩, ⟨(E_3.tr (E_16.tr (E_35.tr E_44))), (gF.tr (gF.mo (F' := [(0, 0), (0, 1), (10, 5), (10, 6)]) (C' := [(0, 0), (6, 0), (10, 3), (10, 4)]) (S' := none) Fr_4 (by decide) (by decide) (Or.inr rfl)) (gF.tr (gF.mo (F' := [(0, 0), (0, 1), (10, 5), (10, 6)]) (C' := [(0, 0), (6, 0), (10, 3), (10, 4)]) (S' := none) Fr_17 (by decide) (by decide) (Or.inl rfl)) (gF.tr (gF.mo (F' := [(0, 0), (0, 1), (10, 5), (10, 6)]) (C' := [(0, 0), (6, 0), (10, 3), (10, 4)]) (S' := none) Fr_36 (by decide) (by decide) (Or.inr rfl)) Fr_45))), hG, by rw [ht9]; exact hP, hD, _, _, by rw [ht9]; exact hLd, hcl, hsl⟩⟩, hS.F ht9⟩) hS.2.2 dX11_textEntry_48
      · refine lv_aload_n hx hb dX11_textEntry_26 rfl (lv_at hl 0 rfl) ?_
        obtain ⟨fs9, hk_51, hq_51⟩ := ((gA.tr (gF.a (F' := [(0, 0), (0, 1)]) Fr_17 (fun _ h => h)) (gF.a (F' := [(0, 0), (0, 1)]) Fr_36 (fun _ h => h)))) _ _ _ hk_8
        obtain ⟨r0_51, r1_51, r2_51, r3_51, n3_51, r4_51, n4_51, c5_51, c6_51, v7_51, c8_51, c9_51, r10_51, n10_51, r11_51, n11_51, r12_51, n12_51, r13_51, n13_51, r14_51, v15_51, r16_51, n16_51, r17_51, n17_51, rfl, o_r0_51, o_r1_51, o_r2_51, a_r3_51, f4_51, a_r4_51, f6_51, hz_c6_51, o_v7_51, a_r10_51, f10_51, a_r11_51, f12_51, a_r12_51, f14_51, a_r13_51, f16_51, o_r14_51, o_v15_51, a_r16_51, f20_51, a_r17_51, f22_51, f23_51, f24_51, f25_51, f26_51, f27_51, f28_51, -⟩ := (hG.1 _ _ _ _ hk_51).hX11 rfl
        obtain rfl := fe_r (hq_51 2 (by decide))
        have o_r2_8 := o_r2_51
        obtain rfl := fe_q (hq_51 7 (by decide))
        have o_v7_8 := o_v7_51
        obtain rfl := fe_q (hq_51 15 (by decide))
        have o_v15_8 := o_v15_51
        refine va_get (D := gD g) (ci := 10) (v := .ref r2_8) (C := RX11) (T := TX11) (N := 18) hx hb hts inX11 hown hK hP k_8 hk_51 rfl 2 (by decide) (hts _ kw_139) (fun _ h9 => h9) rfl dX11_textEntry_27 ?_
        refine lv_aload_n hx hb dX11_textEntry_30 rfl (lv_at hl 1 rfl) ?_
        refine lv_iload_n hx hb dX11_textEntry_31 rfl (lv_at hl 2 rfl) ?_
        have hFc := gfree hD hS hA
        have pg_52 := ge_10_17 hD hk_51 rfl a_r17_51
        refine W_led (fun hL0 => ?_)
        obtain ⟨i_53, hi_53, e_53, en_53⟩ := id t_b1
        refine va_calli (va_runV (As := [.int v2_31]) (rest := [.ref r2_8]) ⟨hx, hb, hml, hown, hts⟩ (m_J0_charAt_5068e l g H ws_34 b1 (n_b1) (v2_31) hG t_b1 (by have q_t_b1 := gT_le t_b1; have q_r_10 := h_r_10; have q_iv_32 := iv_32; have q_iv_33 := iv_33; have q_r_38 := h_r_38; have q_c_39 := i_nle c_39; have g_r_10 := i_rg r_10; have g_r_38 := i_rg r_38; have g_v2_31 := i_rg v2_31; omega)) (cwV 1 hts (gd_V kw_269 kw_1758 kw_1759 kw_1754 kw_1757) rfl rfl rfl (by decide +kernel) ⟨Nat.le_of_ble_eq_true rfl, Nat.le_of_ble_eq_true rfl⟩) ⟨gblindH, (by rw [e_53]; exact vk_recv hE.2.2.2.2.2.2.1 hi_53 hS), fun U hU hW9 => gmkH hU hW9 hP hK hD hex hE hS hFc⟩ rfl rfl hl.1 rfl (lv_room (Nat.le_of_ble_eq_true rfl)) dX11_textEntry_32 ⟨(show dc_18_1 + (PC ws_34 + (0)) ≤ PC ws + (0) from (by have e0 : (0 : Int32).toInt = 0 := (by decide); omega)), (show ds_18_1 + (PS ws_34 + (0)) ≤ PS ws + (0) from (by have e0 : (0 : Int32).toInt = 0 := (by decide); omega))⟩) hS (fun q _ h => hFc q h) hFc (fun r_54 ws_55 t9 H1 locs ht9 hvm9 hw9 hB9 hz9 hk9 hS => ?_)
        obtain ⟨E_56, Fr_57, hG, hP1, hD1, dc_58, ds_59, hLd, hdc_58, hds_59⟩ := hB9
        rw [ht9] at hLd
        refine W_tight (hL0.tr hLd).1 (hL0.tr hLd).2.1 ?_
        clear hL0 hLd
        have hP : va_P (gD g) cl0 ws_55 H1 := by rw [← ht9]; exact hP1
        have hD : va_D A ws_55 := hD1.weaken (fun _ _ _ h => hFc _ h)
        have h_r_54 := hw9
        clear hP1 hD1 hz9 hk9 hvm9 ht9 hw9
        generalize H1 = H at hP hS ⊢
        have aa_60 := a_r3_51
        have aa_61 := a_r4_51
        have aa_62 := a_r10_51
        have aa_63 := a_r11_51
        have aa_64 := a_r12_51
        have aa_65 := a_r13_51
        have aa_66 := a_r16_51
        have aa_67 := a_r17_51
        have o_h0 := E_56.1 _ _ o_h0
        have o_r2_8 := E_56.1 _ _ o_r2_8
        obtain ⟨fs9, hk_68, hq_68⟩ := ((gA.tr (gF.a (F' := [(0, 0), (0, 1)]) Fr_17 (fun _ h => h)) (gA.tr (gF.a (F' := [(0, 0), (0, 1)]) Fr_36 (fun _ h => h)) (gF.a (F' := [(0, 0), (0, 1)]) Fr_57 (fun _ h => absurd h List.not_mem_nil))))) _ _ _ hk_11
        obtain ⟨r0_68, n0_68, c1_68, rfl, a_r0_68, f1_68, f2_68, f3_68, f4_68, f5_68, -⟩ := (hG.1 _ _ _ _ hk_68).hX0 rfl
        obtain ⟨fs9, hk_69, hq_69⟩ := ((gF.a (F' := []) Fr_57 (fun _ h => h))) _ _ _ hk_51
        obtain ⟨r0_69, r1_69, r2_69, r3_69, n3_69, r4_69, n4_69, c5_69, c6_69, v7_69, c8_69, c9_69, r10_69, n10_69, r11_69, n11_69, r12_69, n12_69, r13_69, n13_69, r14_69, v15_69, r16_69, n16_69, r17_69, n17_69, rfl, o_r0_69, o_r1_69, o_r2_69, a_r3_69, f4_69, a_r4_69, f6_69, hz_c6_69, o_v7_69, a_r10_69, f10_69, a_r11_69, f12_69, a_r12_69, f14_69, a_r13_69, f16_69, o_r14_69, o_v15_69, a_r16_69, f20_69, a_r17_69, f22_69, f23_69, f24_69, f25_69, f26_69, f27_69, f28_69, -⟩ := (hG.1 _ _ _ _ hk_69).hX11 rfl
        obtain rfl := fe_r (hq_69 2 (by decide))
        have o_r2_8 := o_r2_69
        obtain rfl := fe_q (hq_69 7 (by decide))
        have o_v7_8 := o_v7_69
        obtain rfl := fe_q (hq_69 15 (by decide))
        have o_v15_8 := o_v15_69
        have tq_70 : wcP ws_55 h0 0 (wb) (3 + v2_31.toInt) := wcP_mo (Fr_57) (by decide) (by decide) (by decide) (by decide) (by decide) jx_18_0
        have wb_71 : c1_68.toInt ≤ (3 + v2_31.toInt) := wcP_u2 hD hk_69 rfl hk_68 rfl tq_70
        have hkW := hk_69
        have hDW := hD
        have hFc := gfree hD hS hA
        have pg_72 := ge_0_0 hD hk_68 rfl a_r0_68
        have pg_73 := ge_10_17 hD hk_69 rfl a_r17_69
        refine W_led (fun hL0 => ?_)
        refine va_callv (va_runV (As := [.int r_54]) (rest := []) ⟨hx, hb, hml, hown, hts⟩ (m_X0_put l g H ws_55 r2_8 (r_54) (c1_68) hG o_r2_8 (gP_of hD hk_68 (fun q90 e90 => by cases e90; exact (by have q_f2_68 := f2_68; have q_f3_68 := f3_68; have q_wb_71 := wb_71; have q_iv_32 := iv_32; have q_iv_33 := iv_33; have q_c_39 := i_nle c_39; have q_f1_68 := f1_68; have q_f4_68 := f4_68; have q_f5_68 := f5_68; have q_r_38 := h_r_38; have q_t_b1 := gT_le t_b1; have q_r_10 := h_r_10; have g_c1_68 := i_rg c1_68; have g_r_10 := i_rg r_10; have g_r_38 := i_rg r_38; have g_v2_31 := i_rg v2_31; omega))) (gP_of hD hk_68 (fun q90 e90 => by cases e90; exact (by have q_f2_68 := f2_68; have q_f3_68 := f3_68; have q_wb_71 := wb_71; have q_iv_32 := iv_32; have q_iv_33 := iv_33; have q_c_39 := i_nle c_39; have q_f1_68 := f1_68; have q_f4_68 := f4_68; have q_f5_68 := f5_68; have q_r_38 := h_r_38; have q_t_b1 := gT_le t_b1; have q_r_10 := h_r_10; have g_c1_68 := i_rg c1_68; have g_r_10 := i_rg r_10; have g_r_38 := i_rg r_38; have g_v2_31 := i_rg v2_31; omega)))) (cwV 1 hts (gd_V kw_140 kw_13 kw_14 kw_3 kw_12) rfl rfl rfl (by decide +kernel) ⟨Nat.le_of_ble_eq_true rfl, Nat.le_of_ble_eq_true rfl⟩) ⟨gblindH, va_recv hK hP (ci := 0) (q0 := k_11) rfl hk_68, fun U hU hW9 => gmkH hU hW9 hP hK hD hex hE hS hFc⟩ rfl rfl hl.1 rfl (lv_room (Nat.le_of_ble_eq_true rfl)) dX11_textEntry_35 ⟨(show dc_18_1 + dc_58 + (PC ws_55 + (0)) ≤ PC ws + (0) from (by have e0 : (0 : Int32).toInt = 0 := (by decide); omega)), (show ds_18_1 + ds_59 + (PS ws_55 + (0)) ≤ PS ws + (0) from (by have e0 : (0 : Int32).toInt = 0 := (by decide); omega))⟩) hS (fun q _ h => hFc q h) hFc (fun  ws_74 t9 H1 locs ht9 hvm9 hw9 hB9 hz9 hk9 hS => ?_)
        obtain ⟨E_75, Fr_76, hG, hP1, hD1, dc_77, ds_78, hLd, hdc_77, hds_78⟩ := hB9
        rw [ht9] at hLd
        refine W_tight (hL0.tr hLd).1 (hL0.tr hLd).2.1 ?_
        clear hL0 hLd
        have hP : va_P (gD g) cl0 ws_74 H1 := by rw [← ht9]; exact hP1
        have hD : va_D A ws_74 := hD1.weaken (fun _ _ _ h => hFc _ h)
        have kf_79 := hw9
        clear hP1 hD1 hz9 hk9 hvm9 ht9 hw9
        generalize H1 = H at hP hS ⊢
        have aa_80 := a_r0_68
        have aa_81 := a_r3_69
        have aa_82 := a_r4_69
        have aa_83 := a_r10_69
        have aa_84 := a_r11_69
        have aa_85 := a_r12_69
        have aa_86 := a_r13_69
        have aa_87 := a_r16_69
        have aa_88 := a_r17_69
        have o_h0 := E_75.1 _ _ o_h0
        have tq_89 : wcP ws_74 h0 0 (wb) ((3 + v2_31.toInt) + 1) := wcP_2 hDW hG Fr_76 (by decide) (by decide) (by decide) (by decide) hkW rfl (fun k9 ci9 fs9 h9 c9 e9 => by have w9 := kf_79 _ _ _ h9 c9 e9; omega) tq_70
        obtain ⟨z_90, ez_90⟩ : ∃ z : Int32, v2_31 + Int32.ofInt 1 = z := ⟨_, rfl⟩
        refine lv_iinc (v := z_90) (lv' := [(2, .int z_90), (0, .ref h0), (1, .ref b1)]) hx hb dX11_textEntry_38 hl (k := 2) rfl ez_90 (by decide) rfl (fun ls hl => ?_)
        refine lv_goto (tgt := 18) hx hb dX11_textEntry_41 (by decide) ?_
        have tq_91 : wcP ws_74 h0 0 (wb) (3 + z_90.toInt) := wcP_le (by have e0 : (0 : Int32).toInt = 0 := (by decide); have e09 : (0 : Int32).toInt = 0 := rfl; omega) (by have q_pwc := pwc; have e09 : (0 : Int32).toInt = 0 := rfl; omega) (by have q_iv_32 := iv_32; have q_iv_33 := iv_33; have q_c_39 := i_nle c_39; have q_wb_71 := wb_71; obtain ⟨u_z_90, q_z_90⟩ := i_iz ez_90 (by decide) (by decide); have q_r_38 := h_r_38; have q_f2_68 := f2_68; have q_f3_68 := f3_68; have q_t_b1 := gT_le t_b1; have q_r_10 := h_r_10; have q_f1_68 := f1_68; have q_f4_68 := f4_68; have q_f5_68 := f5_68; have g_c1_68 := i_rg c1_68; have g_r_10 := i_rg r_10; have g_r_38 := i_rg r_38; have g_v2_31 := i_rg v2_31; have g_z_90 := i_rg z_90; have e09 : (0 : Int32).toInt = 0 := rfl; omega) tq_89
        exact ih_18 _ (by obtain ⟨u_z_90, q_z_90⟩ := i_iz ez_90 (by decide) (by decide); have q_iv_32 := iv_32; have q_iv_33 := iv_33; have q_c_39 := i_nle c_39; have q_wb_71 := wb_71; have q_r_38 := h_r_38; have q_f2_68 := f2_68; have q_f3_68 := f3_68; have q_t_b1 := gT_le t_b1; have q_r_10 := h_r_10; have q_f1_68 := f1_68; have q_f4_68 := f4_68; have q_f5_68 := f5_68; have g_c1_68 := i_rg c1_68; have g_r_10 := i_rg r_10; have g_r_38 := i_rg r_38; have g_v2_31 := i_rg v2_31; have g_z_90 := i_rg z_90; omega) (z_90) (dc_18_1 + dc_58 + dc_77) (ds_18_1 + ds_59 + ds_78) ws_74 H locs ls rfl (by obtain ⟨u_z_90, q_z_90⟩ := i_iz ez_90 (by decide) (by decide); have q_iv_32 := iv_32; have q_iv_33 := iv_33; have q_c_39 := i_nle c_39; have q_wb_71 := wb_71; have q_r_38 := h_r_38; have q_f2_68 := f2_68; have q_f3_68 := f3_68; have q_t_b1 := gT_le t_b1; have q_r_10 := h_r_10; have q_f1_68 := f1_68; have q_f4_68 := f4_68; have q_f5_68 := f5_68; have g_c1_68 := i_rg c1_68; have g_r_10 := i_rg r_10; have g_r_38 := i_rg r_38; have g_v2_31 := i_rg v2_31; have g_z_90 := i_rg z_90; omega) (by obtain ⟨u_z_90, q_z_90⟩ := i_iz ez_90 (by decide) (by decide); have q_iv_32 := iv_32; have q_iv_33 := iv_33; have q_c_39 := i_nle c_39; have q_wb_71 := wb_71; have q_r_38 := h_r_38; have q_f2_68 := f2_68; have q_f3_68 := f3_68; have q_t_b1 := gT_le t_b1; have q_r_10 := h_r_10; have q_f1_68 := f1_68; have q_f4_68 := f4_68; have q_f5_68 := f5_68; have g_c1_68 := i_rg c1_68; have g_r_10 := i_rg r_10; have g_r_38 := i_rg r_38; have g_v2_31 := i_rg v2_31; have g_z_90 := i_rg z_90; omega) ((E_35.tr (E_56.tr E_75))) ((gF.tr Fr_36 (gF.tr (gF.mo (F' := [(0, 0), (0, 1)]) (C' := [(0, 0), (6, 0)]) (S' := none) Fr_57 (fun _ h => absurd h List.not_mem_nil) (fun _ h => absurd h List.not_mem_nil) (Or.inr rfl)) (gF.mo (F' := [(0, 0), (0, 1)]) (C' := [(0, 0), (6, 0)]) (S' := none) Fr_76 (fun _ h => h) (fun _ h => h) (Or.inl rfl))))) hG (by omega) (by omega) tq_91 hP hD hS (lv_sub hl [1, 2, 0] rfl)
  have tq_92 : wcP ws_15 h0 0 (wb) (3 + (0 : Int32).toInt) := wcP_le (by have e0 : (0 : Int32).toInt = 0 := (by decide); have e09 : (0 : Int32).toInt = 0 := rfl; omega) (by have q_pwc := pwc; have e09 : (0 : Int32).toInt = 0 := rfl; omega) (by have e09 : (0 : Int32).toInt = 0 := rfl; omega) tq_30
  exact J_18 _ (0) (0 + dc_5 + dc_18) (0 + ds_6 + ds_19) ws_15 H locs ls rfl (by have e0 : (0 : Int32).toInt = 0 := (by decide); omega) (by have e0 : (0 : Int32).toInt = 0 := (by decide); omega) (gE.rf) (gF.rf) hG (by omega) (by omega) tq_92 hP hD hS (lv_sub hl [1, 2, 0] rfl)
set_option maxHeartbeats 1000000 in
set_option maxRecDepth 100000 in
theorem m_X11_counterEntry (l : Launch) (g : Gm) (H0 : Heap) (ws : va_W) (h0 : Nat) (x1 : Int32) (wb : Int) (wc : Int) (hG : Good g ws) (o_h0 : gC ws h0 10) (tk0 : enP g ws h0) (tk1 : wcP ws h0 0 wb wc) (pwc : 0 ≤ wb ∧ 0 ≤ wc ∧ (wb) ≤ 131072 ∧ (6) ≤ 131072) : Met l yX11_counterEntry (wt yX11_counterEntry cX11_counterEntry 2 (some .int)) ({ frames := 4, cells := PC ws + (0), slots := PS ws + (0), locals := 106 }) (va_Pc [.ref h0, .int x1] (st_H g H0 ws)) (va_Qi (fun (r : Int32) (u9 : va_W) => (True) ∧ (enP g u9 h0) ∧ (wcP u9 h0 0 (wb) (6))) (gQ2 g [(0, 0), (0, 1), (10, 5), (10, 6)] [(0, 0), (6, 0), (10, 3), (10, 4)] none (va_A ws H0.size) ws H0 (0) (0)) (va_A ws H0.size)) (PC ws + (0)) (PS ws + (0)) (va_A ws H0.size) := by
  refine Met.ofW (cc := cX11_counterEntry) (maxL := 2) (ret := (some .int)) (by decide) rfl ?_
  intro p e s m args below meth c s₁ B hml hv
  obtain ⟨rfl, hH0, hsz, hP, hK, hD0, hex, hE⟩ := hv
  have hx := B.exec
  have hb := B.bytes
  have hr := B.returns
  have hts0 := atoms_spec (ws := wt yX11_counterEntry cX11_counterEntry 2 (some .int)) B.pre
  have hts : ∀ w ∈ tb, w.before _ s = true := fun w h => hts0 w (List.mem_cons_of_mem _ h)
  have hown : s.vm.findClass RX11 = some m.cls := findClass_of_methodNamed B.named
  subst hH0
  have hD := hD0.self (sz := s.heap.size)
  generalize hAe : va_A ws s.heap.size = A at hD hE ⊢
  have hA : ∀ q : Nat, s.heap.size ≤ q → A q := fun q h => by rw [← hAe]; exact Or.inr h
  have hS : va_S A s.heap s.heap [] := va_S.rf
  have hl := lv_entry ([.ref h0, .int x1]) (n := 2) (Nat.le_of_ble_eq_true rfl)
  rw [lg_entry_eq]
  generalize (lg_sl ([.ref h0, .int x1]) ++ List.replicate (2 - (lg_sl ([.ref h0, .int x1])).length) Slot.unset).toArray = ls at hl ⊢
  have hl : lv_has ls 2 [(0, .ref h0), (1, .int x1)] := hl
  refine lv_aload_n hx hb dX11_counterEntry_0 rfl (lv_at hl 0 rfl) ?_
  refine lv_iconst (v := 1) hx hb dX11_counterEntry_1 (by decide) ?_
  have hFc := gfree hD hS hA
  refine W_led (fun hL0 => ?_)
  obtain ⟨k_1, fs_1, hk_1⟩ := gC_of o_h0
  refine va_callv (va_runV (As := [.int 1]) (rest := []) ⟨hx, hb, hml, hown, hts⟩ (m_X11_want_x l g s.heap ws h0 (1) wb wc hG o_h0 tk1 (by have q_pwc := pwc; omega)) (cwV 1 hts (gd_V kw_138 kw_275 kw_276 kw_83 kw_274) rfl rfl rfl (by decide +kernel) ⟨Nat.le_of_ble_eq_true rfl, Nat.le_of_ble_eq_true rfl⟩) ⟨gblindH, va_recv hK hP (ci := 10) (q0 := k_1) rfl hk_1, fun U hU hW9 => gmkH hU hW9 hP hK hD hex hE hS hFc⟩ rfl rfl hl.1 rfl (lv_room (Nat.le_of_ble_eq_true rfl)) dX11_counterEntry_2 ⟨(show 0 + (PC ws + (0)) ≤ PC ws + (0) from (by have e0 : (0 : Int32).toInt = 0 := (by decide); omega)), (show 0 + (PS ws + (0)) ≤ PS ws + (0) from (by have e0 : (0 : Int32).toInt = 0 := (by decide); omega))⟩) hS (fun q _ h => hFc q h) hFc (fun  ws_2 t9 H1 locs ht9 hvm9 hw9 hB9 hz9 hk9 hS => ?_)
  obtain ⟨E_3, Fr_4, hG, hP1, hD1, dc_5, ds_6, hLd, hdc_5, hds_6⟩ := hB9
  rw [ht9] at hLd
  refine W_tight (hL0.tr hLd).1 (hL0.tr hLd).2.1 ?_
  clear hL0 hLd
  have hP : va_P (gD g) cl0 ws_2 H1 := by rw [← ht9]; exact hP1
  have hD : va_D A ws_2 := hD1.weaken (fun _ _ _ h => hFc _ h)
  obtain ⟨hw9, xp_7⟩ := hw9
  clear hP1 hD1 hz9 hk9 hvm9 ht9 hw9
  generalize H1 = H at hP hS ⊢
  have o_h0 := E_3.1 _ _ o_h0
  refine lv_aload_n hx hb dX11_counterEntry_5 rfl (lv_at hl 0 rfl) ?_
  obtain ⟨k_8, fs9, hk_8⟩ := gC_of o_h0
  obtain ⟨r0_8, r1_8, r2_8, r3_8, n3_8, r4_8, n4_8, c5_8, c6_8, v7_8, c8_8, c9_8, r10_8, n10_8, r11_8, n11_8, r12_8, n12_8, r13_8, n13_8, r14_8, v15_8, r16_8, n16_8, r17_8, n17_8, rfl, o_r0_8, o_r1_8, o_r2_8, a_r3_8, f4_8, a_r4_8, f6_8, hz_c6_8, o_v7_8, a_r10_8, f10_8, a_r11_8, f12_8, a_r12_8, f14_8, a_r13_8, f16_8, o_r14_8, o_v15_8, a_r16_8, f20_8, a_r17_8, f22_8, f23_8, f24_8, f25_8, f26_8, f27_8, f28_8, -⟩ := (hG.1 _ _ _ _ hk_8).hX11 rfl
  refine va_get (D := gD g) (ci := 10) (v := .ref r2_8) (C := RX11) (T := TX11) (N := 18) hx hb hts inX11 hown hK hP k_8 hk_8 rfl 2 (by decide) (hts _ kw_139) (fun _ h9 => h9) rfl dX11_counterEntry_6 ?_
  refine lv_iload_n hx hb dX11_counterEntry_9 rfl (lv_at hl 1 rfl) ?_
  refine lv_bipush (v := 10) hx hb dX11_counterEntry_10 (by decide) ?_
  refine lv_icmp_ge (tgt := 19) hx hb dX11_counterEntry_12 (by decide) (fun c_9 => ?_) (fun c_9 => ?_)
  · refine lv_iconst (v := 3) hx hb dX11_counterEntry_19 (by decide) ?_
    obtain ⟨k_10, fs9, hk_10⟩ := gC_of o_r2_8
    obtain ⟨r0_10, n0_10, c1_10, rfl, a_r0_10, f1_10, f2_10, f3_10, f4_10, f5_10, -⟩ := (hG.1 _ _ _ _ hk_10).hX0 rfl
    have wb_11 : c1_10.toInt ≤ (1) := wcP_u2 hD hk_8 rfl hk_10 rfl xp_7
    have hkW := hk_8
    have hDW := hD
    have hFc := gfree hD hS hA
    have pg_12 := ge_10_17 hD hk_8 rfl a_r17_8
    have pg_13 := ge_0_0 hD hk_10 rfl a_r0_10
    refine W_led (fun hL0 => ?_)
    refine va_callv (va_runV (As := [.int 3]) (rest := []) ⟨hx, hb, hml, hown, hts⟩ (m_X0_put2 l g H ws_2 r2_8 (3) (c1_10) hG o_r2_8 (gP_of hD hk_10 (fun q90 e90 => by cases e90; exact (by have q_f2_10 := f2_10; have q_f3_10 := f3_10; have q_wb_11 := wb_11; have q_f1_10 := f1_10; have q_f4_10 := f4_10; have q_f5_10 := f5_10; have g_c1_10 := i_rg c1_10; omega))) (gP_of hD hk_10 (fun q90 e90 => by cases e90; exact (by have q_f2_10 := f2_10; have q_f3_10 := f3_10; have q_wb_11 := wb_11; have q_f1_10 := f1_10; have q_f4_10 := f4_10; have q_f5_10 := f5_10; have g_c1_10 := i_rg c1_10; omega)))) (cwV 1 hts (gd_V kw_96 kw_17 kw_18 kw_3 kw_16) rfl rfl rfl (by decide +kernel) ⟨Nat.le_of_ble_eq_true rfl, Nat.le_of_ble_eq_true rfl⟩) ⟨gblindH, va_recv hK hP (ci := 0) (q0 := k_10) rfl hk_10, fun U hU hW9 => gmkH hU hW9 hP hK hD hex hE hS hFc⟩ rfl rfl hl.1 rfl (lv_room (Nat.le_of_ble_eq_true rfl)) dX11_counterEntry_20 ⟨(show 0 + dc_5 + (PC ws_2 + (0)) ≤ PC ws + (0) from (by have e0 : (0 : Int32).toInt = 0 := (by decide); omega)), (show 0 + ds_6 + (PS ws_2 + (0)) ≤ PS ws + (0) from (by have e0 : (0 : Int32).toInt = 0 := (by decide); omega))⟩) hS (fun q _ h => hFc q h) hFc (fun  ws_14 t9 H1 locs ht9 hvm9 hw9 hB9 hz9 hk9 hS => ?_)
    obtain ⟨E_15, Fr_16, hG, hP1, hD1, dc_17, ds_18, hLd, hdc_17, hds_18⟩ := hB9
    rw [ht9] at hLd
    refine W_tight (hL0.tr hLd).1 (hL0.tr hLd).2.1 ?_
    clear hL0 hLd
    have hP : va_P (gD g) cl0 ws_14 H1 := by rw [← ht9]; exact hP1
    have hD : va_D A ws_14 := hD1.weaken (fun _ _ _ h => hFc _ h)
    have kf_19 := hw9
    clear hP1 hD1 hz9 hk9 hvm9 ht9 hw9
    generalize H1 = H at hP hS ⊢
    have aa_20 := a_r3_8
    have aa_21 := a_r4_8
    have aa_22 := a_r10_8
    have aa_23 := a_r11_8
    have aa_24 := a_r12_8
    have aa_25 := a_r13_8
    have aa_26 := a_r16_8
    have aa_27 := a_r17_8
    have aa_28 := a_r0_10
    have o_h0 := E_15.1 _ _ o_h0
    have tq_29 : wcP ws_14 h0 0 (wb) ((1) + 2) := wcP_2 hDW hG Fr_16 (by decide) (by decide) (by decide) (by decide) hkW rfl (fun k9 ci9 fs9 h9 c9 e9 => by have w9 := kf_19 _ _ _ h9 c9 e9; omega) xp_7
    refine lv_aload_n hx hb dX11_counterEntry_23 rfl (lv_at hl 0 rfl) ?_
    obtain ⟨fs9, hk_30, hq_30⟩ := ((gF.a (F' := [(0, 0), (0, 1)]) Fr_16 (fun _ h => h))) _ _ _ hk_8
    obtain ⟨r0_30, r1_30, r2_30, r3_30, n3_30, r4_30, n4_30, c5_30, c6_30, v7_30, c8_30, c9_30, r10_30, n10_30, r11_30, n11_30, r12_30, n12_30, r13_30, n13_30, r14_30, v15_30, r16_30, n16_30, r17_30, n17_30, rfl, o_r0_30, o_r1_30, o_r2_30, a_r3_30, f4_30, a_r4_30, f6_30, hz_c6_30, o_v7_30, a_r10_30, f10_30, a_r11_30, f12_30, a_r12_30, f14_30, a_r13_30, f16_30, o_r14_30, o_v15_30, a_r16_30, f20_30, a_r17_30, f22_30, f23_30, f24_30, f25_30, f26_30, f27_30, f28_30, -⟩ := (hG.1 _ _ _ _ hk_30).hX11 rfl
    obtain rfl := fe_r (hq_30 2 (by decide))
    have o_r2_8 := o_r2_30
    obtain rfl := fe_q (hq_30 7 (by decide))
    have o_v7_8 := o_v7_30
    obtain rfl := fe_q (hq_30 15 (by decide))
    have o_v15_8 := o_v15_30
    refine va_get (D := gD g) (ci := 10) (v := .ref r2_8) (C := RX11) (T := TX11) (N := 18) hx hb hts inX11 hown hK hP k_8 hk_30 rfl 2 (by decide) (hts _ kw_139) (fun _ h9 => h9) rfl dX11_counterEntry_24 ?_
    refine lv_bipush (v := 99) hx hb dX11_counterEntry_27 (by decide) ?_
    obtain ⟨fs9, hk_31, hq_31⟩ := ((gF.a (F' := [(0, 0), (0, 1)]) Fr_16 (fun _ h => h))) _ _ _ hk_10
    obtain ⟨r0_31, n0_31, c1_31, rfl, a_r0_31, f1_31, f2_31, f3_31, f4_31, f5_31, -⟩ := (hG.1 _ _ _ _ hk_31).hX0 rfl
    have kq_32 := kf_19 _ _ _ hk_31 _ rfl
    have wb_33 : c1_31.toInt ≤ ((1) + 2) := wcP_u2 hD hk_30 rfl hk_31 rfl tq_29
    have hkW := hk_30
    have hDW := hD
    have hFc := gfree hD hS hA
    have pg_34 := ge_10_17 hD hk_30 rfl a_r17_30
    have pg_35 := ge_0_0 hD hk_31 rfl a_r0_31
    refine W_led (fun hL0 => ?_)
    refine va_callv (va_runV (As := [.int 99]) (rest := []) ⟨hx, hb, hml, hown, hts⟩ (m_X0_put l g H ws_14 r2_8 (99) (c1_31) hG o_r2_8 (gP_of hD hk_31 (fun q90 e90 => by cases e90; exact (by have q_f2_31 := f2_31; have q_f3_31 := f3_31; have q_kq_32 := kq_32; have q_wb_33 := wb_33; have q_f2_10 := f2_10; have q_f3_10 := f3_10; have q_wb_11 := wb_11; have q_f1_31 := f1_31; have q_f4_31 := f4_31; have q_f5_31 := f5_31; have q_f1_10 := f1_10; have q_f4_10 := f4_10; have q_f5_10 := f5_10; have g_c1_10 := i_rg c1_10; have g_c1_31 := i_rg c1_31; omega))) (gP_of hD hk_31 (fun q90 e90 => by cases e90; exact (by have q_f2_31 := f2_31; have q_f3_31 := f3_31; have q_kq_32 := kq_32; have q_wb_33 := wb_33; have q_f2_10 := f2_10; have q_f3_10 := f3_10; have q_wb_11 := wb_11; have q_f1_31 := f1_31; have q_f4_31 := f4_31; have q_f5_31 := f5_31; have q_f1_10 := f1_10; have q_f4_10 := f4_10; have q_f5_10 := f5_10; have g_c1_10 := i_rg c1_10; have g_c1_31 := i_rg c1_31; omega)))) (cwV 1 hts (gd_V kw_140 kw_13 kw_14 kw_3 kw_12) rfl rfl rfl (by decide +kernel) ⟨Nat.le_of_ble_eq_true rfl, Nat.le_of_ble_eq_true rfl⟩) ⟨gblindH, va_recv hK hP (ci := 0) (q0 := k_10) rfl hk_31, fun U hU hW9 => gmkH hU hW9 hP hK hD hex hE hS hFc⟩ rfl rfl hl.1 rfl (lv_room (Nat.le_of_ble_eq_true rfl)) dX11_counterEntry_29 ⟨(show 0 + dc_5 + dc_17 + (PC ws_14 + (0)) ≤ PC ws + (0) from (by have e0 : (0 : Int32).toInt = 0 := (by decide); omega)), (show 0 + ds_6 + ds_18 + (PS ws_14 + (0)) ≤ PS ws + (0) from (by have e0 : (0 : Int32).toInt = 0 := (by decide); omega))⟩) hS (fun q _ h => hFc q h) hFc (fun  ws_36 t9 H1 locs ht9 hvm9 hw9 hB9 hz9 hk9 hS => ?_)
    obtain ⟨E_37, Fr_38, hG, hP1, hD1, dc_39, ds_40, hLd, hdc_39, hds_40⟩ := hB9
    rw [ht9] at hLd
    refine W_tight (hL0.tr hLd).1 (hL0.tr hLd).2.1 ?_
    clear hL0 hLd
    have hP : va_P (gD g) cl0 ws_36 H1 := by rw [← ht9]; exact hP1
    have hD : va_D A ws_36 := hD1.weaken (fun _ _ _ h => hFc _ h)
    have kf_41 := hw9
    clear hP1 hD1 hz9 hk9 hvm9 ht9 hw9
    generalize H1 = H at hP hS ⊢
    have aa_42 := a_r3_30
    have aa_43 := a_r4_30
    have aa_44 := a_r10_30
    have aa_45 := a_r11_30
    have aa_46 := a_r12_30
    have aa_47 := a_r13_30
    have aa_48 := a_r16_30
    have aa_49 := a_r17_30
    have aa_50 := a_r0_31
    have o_h0 := E_37.1 _ _ o_h0
    have tq_51 : wcP ws_36 h0 0 (wb) (((1) + 2) + 1) := wcP_2 hDW hG Fr_38 (by decide) (by decide) (by decide) (by decide) hkW rfl (fun k9 ci9 fs9 h9 c9 e9 => by have w9 := kf_41 _ _ _ h9 c9 e9; omega) tq_29
    refine lv_iload_n hx hb dX11_counterEntry_32 rfl (lv_at hl 1 rfl) ?_
    refine lv_bipush (v := 10) hx hb dX11_counterEntry_33 (by decide) ?_
    refine lv_icmp_lt (tgt := 52) hx hb dX11_counterEntry_35 (by decide) (fun c_52 => ?_) (fun c_52 => ?_)
    · refine lv_aload_n hx hb dX11_counterEntry_52 rfl (lv_at hl 0 rfl) ?_
      obtain ⟨fs9, hk_53, hq_53⟩ := ((gF.a (F' := [(0, 0), (0, 1)]) Fr_38 (fun _ h => h))) _ _ _ hk_30
      obtain ⟨r0_53, r1_53, r2_53, r3_53, n3_53, r4_53, n4_53, c5_53, c6_53, v7_53, c8_53, c9_53, r10_53, n10_53, r11_53, n11_53, r12_53, n12_53, r13_53, n13_53, r14_53, v15_53, r16_53, n16_53, r17_53, n17_53, rfl, o_r0_53, o_r1_53, o_r2_53, a_r3_53, f4_53, a_r4_53, f6_53, hz_c6_53, o_v7_53, a_r10_53, f10_53, a_r11_53, f12_53, a_r12_53, f14_53, a_r13_53, f16_53, o_r14_53, o_v15_53, a_r16_53, f20_53, a_r17_53, f22_53, f23_53, f24_53, f25_53, f26_53, f27_53, f28_53, -⟩ := (hG.1 _ _ _ _ hk_53).hX11 rfl
      obtain rfl := fe_r (hq_53 2 (by decide))
      have o_r2_8 := o_r2_53
      obtain rfl := fe_q (hq_53 7 (by decide))
      have o_v7_8 := o_v7_53
      obtain rfl := fe_q (hq_53 15 (by decide))
      have o_v15_8 := o_v15_53
      refine va_get (D := gD g) (ci := 10) (v := .ref r2_8) (C := RX11) (T := TX11) (N := 18) hx hb hts inX11 hown hK hP k_8 hk_53 rfl 2 (by decide) (hts _ kw_139) (fun _ h9 => h9) rfl dX11_counterEntry_53 ?_
      refine lv_bipush (v := 48) hx hb dX11_counterEntry_56 (by decide) ?_
      refine lv_iload_n hx hb dX11_counterEntry_58 rfl (lv_at hl 1 rfl) ?_
      refine lv_bipush (v := 10) hx hb dX11_counterEntry_59 (by decide) ?_
      refine lv_irem hx hb dX11_counterEntry_61 (by decide) ?_
      refine lv_topi (fun z_54 ez_54 => ?_)
      refine lv_iadd hx hb dX11_counterEntry_62 ?_
      refine lv_topi (fun z_55 ez_55 => ?_)
      obtain ⟨fs9, hk_56, hq_56⟩ := ((gF.a (F' := [(0, 0), (0, 1)]) Fr_38 (fun _ h => h))) _ _ _ hk_31
      obtain ⟨r0_56, n0_56, c1_56, rfl, a_r0_56, f1_56, f2_56, f3_56, f4_56, f5_56, -⟩ := (hG.1 _ _ _ _ hk_56).hX0 rfl
      have kq_57 := kf_41 _ _ _ hk_56 _ rfl
      have wb_58 : c1_56.toInt ≤ (((1) + 2) + 1) := wcP_u2 hD hk_53 rfl hk_56 rfl tq_51
      have hkW := hk_53
      have hDW := hD
      have hFc := gfree hD hS hA
      have pg_59 := ge_10_17 hD hk_53 rfl a_r17_53
      have pg_60 := ge_0_0 hD hk_56 rfl a_r0_56
      refine W_led (fun hL0 => ?_)
      refine va_callv (va_runV (As := [.int z_55]) (rest := []) ⟨hx, hb, hml, hown, hts⟩ (m_X0_put l g H ws_36 r2_8 (z_55) (c1_56) hG o_r2_8 (gP_of hD hk_56 (fun q90 e90 => by cases e90; exact (by have q_f2_56 := f2_56; have q_f3_56 := f3_56; have q_kq_57 := kq_57; have q_wb_58 := wb_58; have q_f2_31 := f2_31; have q_f3_31 := f3_31; have q_kq_32 := kq_32; have q_wb_33 := wb_33; have q_f1_56 := f1_56; have q_f4_56 := f4_56; have q_f5_56 := f5_56; have q_f2_10 := f2_10; have q_f3_10 := f3_10; have q_wb_11 := wb_11; have q_f1_31 := f1_31; have q_f4_31 := f4_31; have q_f5_31 := f5_31; have g_c1_10 := i_rg c1_10; have g_c1_31 := i_rg c1_31; have g_c1_56 := i_rg c1_56; omega))) (gP_of hD hk_56 (fun q90 e90 => by cases e90; exact (by have q_f2_56 := f2_56; have q_f3_56 := f3_56; have q_kq_57 := kq_57; have q_wb_58 := wb_58; have q_f2_31 := f2_31; have q_f3_31 := f3_31; have q_kq_32 := kq_32; have q_wb_33 := wb_33; have q_f1_56 := f1_56; have q_f4_56 := f4_56; have q_f5_56 := f5_56; have q_f2_10 := f2_10; have q_f3_10 := f3_10; have q_wb_11 := wb_11; have q_f1_31 := f1_31; have q_f4_31 := f4_31; have q_f5_31 := f5_31; have g_c1_10 := i_rg c1_10; have g_c1_31 := i_rg c1_31; have g_c1_56 := i_rg c1_56; omega)))) (cwV 1 hts (gd_V kw_140 kw_13 kw_14 kw_3 kw_12) rfl rfl rfl (by decide +kernel) ⟨Nat.le_of_ble_eq_true rfl, Nat.le_of_ble_eq_true rfl⟩) ⟨gblindH, va_recv hK hP (ci := 0) (q0 := k_10) rfl hk_56, fun U hU hW9 => gmkH hU hW9 hP hK hD hex hE hS hFc⟩ rfl rfl hl.1 rfl (lv_room (Nat.le_of_ble_eq_true rfl)) dX11_counterEntry_63 ⟨(show 0 + dc_5 + dc_17 + dc_39 + (PC ws_36 + (0)) ≤ PC ws + (0) from (by have e0 : (0 : Int32).toInt = 0 := (by decide); omega)), (show 0 + ds_6 + ds_18 + ds_40 + (PS ws_36 + (0)) ≤ PS ws + (0) from (by have e0 : (0 : Int32).toInt = 0 := (by decide); omega))⟩) hS (fun q _ h => hFc q h) hFc (fun  ws_61 t9 H1 locs ht9 hvm9 hw9 hB9 hz9 hk9 hS => ?_)
      obtain ⟨E_62, Fr_63, hG, hP1, hD1, dc_64, ds_65, hLd, hdc_64, hds_65⟩ := hB9
      rw [ht9] at hLd
      refine W_tight (hL0.tr hLd).1 (hL0.tr hLd).2.1 ?_
      clear hL0 hLd
      have hP : va_P (gD g) cl0 ws_61 H1 := by rw [← ht9]; exact hP1
      have hD : va_D A ws_61 := hD1.weaken (fun _ _ _ h => hFc _ h)
      have kf_66 := hw9
      clear hP1 hD1 hz9 hk9 hvm9 ht9 hw9
      generalize H1 = H at hP hS ⊢
      have aa_67 := a_r3_53
      have aa_68 := a_r4_53
      have aa_69 := a_r10_53
      have aa_70 := a_r11_53
      have aa_71 := a_r12_53
      have aa_72 := a_r13_53
      have aa_73 := a_r16_53
      have aa_74 := a_r17_53
      have aa_75 := a_r0_56
      have o_h0 := E_62.1 _ _ o_h0
      have tq_76 : wcP ws_61 h0 0 (wb) ((((1) + 2) + 1) + 1) := wcP_2 hDW hG Fr_63 (by decide) (by decide) (by decide) (by decide) hkW rfl (fun k9 ci9 fs9 h9 c9 e9 => by have w9 := kf_66 _ _ _ h9 c9 e9; omega) tq_51
      refine lv_aload_n hx hb dX11_counterEntry_66 rfl (lv_at hl 0 rfl) ?_
      have tq_77 : enP g ws_61 h0 := enP_mo ((gF.tr Fr_4 (gF.tr (gF.mo (F' := [(0, 0), (0, 1)]) (C' := [(0, 0), (6, 0)]) (S' := none) Fr_16 (fun _ h => h) (fun _ h => h) (Or.inl rfl)) (gF.tr (gF.mo (F' := [(0, 0), (0, 1)]) (C' := [(0, 0), (6, 0)]) (S' := none) Fr_38 (fun _ h => h) (fun _ h => h) (Or.inl rfl)) (gF.mo (F' := [(0, 0), (0, 1)]) (C' := [(0, 0), (6, 0)]) (S' := none) Fr_63 (fun _ h => h) (fun _ h => h) (Or.inl rfl)))))) (by decide) (by decide) (by decide) tk0
      have hFc := gfree hD hS hA
      refine W_led (fun hL0 => ?_)
      obtain ⟨k_78, fs_78, hk_78⟩ := gC_of o_h0
      refine va_calli (va_runV (As := []) (rest := []) ⟨hx, hb, hml, hown, hts⟩ (m_X11_entryOfWanted l g H ws_61 h0 (wb) ((((1) + 2) + 1) + 1) hG o_h0 tq_77 tq_76 (by omega) (by have q_pwc := pwc; omega)) (cwV 0 hts (gd_V kw_141 kw_143 kw_144 kw_83 kw_142) rfl rfl rfl (by decide +kernel) ⟨Nat.le_of_ble_eq_true rfl, Nat.le_of_ble_eq_true rfl⟩) ⟨gblindH, va_recv hK hP (ci := 10) (q0 := k_78) rfl hk_78, fun U hU hW9 => gmkH hU hW9 hP hK hD hex hE hS hFc⟩ rfl rfl hl.1 rfl (lv_room (Nat.le_of_ble_eq_true rfl)) dX11_counterEntry_67 ⟨(show 0 + dc_5 + dc_17 + dc_39 + dc_64 + (PC ws_61 + (0)) ≤ PC ws + (0) from (by have e0 : (0 : Int32).toInt = 0 := (by decide); omega)), (show 0 + ds_6 + ds_18 + ds_40 + ds_65 + (PS ws_61 + (0)) ≤ PS ws + (0) from (by have e0 : (0 : Int32).toInt = 0 := (by decide); omega))⟩) hS (fun q _ h => hFc q h) hFc (fun r_79 ws_80 t9 H1 locs ht9 hvm9 hw9 hB9 hz9 hk9 hS => ?_)
      obtain ⟨E_81, Fr_82, hG, hP1, hD1, dc_83, ds_84, hLd, hdc_83, hds_84⟩ := hB9
      rw [ht9] at hLd
      refine W_tight (hL0.tr hLd).1 (hL0.tr hLd).2.1 ?_
      clear hL0 hLd
      have hP : va_P (gD g) cl0 ws_80 H1 := by rw [← ht9]; exact hP1
      have hD : va_D A ws_80 := hD1.weaken (fun _ _ _ h => hFc _ h)
      obtain ⟨hw9, xp_85, xp_86⟩ := hw9
      clear hP1 hD1 hz9 hk9 hvm9 ht9 hw9
      generalize H1 = H at hP hS ⊢
      have o_h0 := E_81.1 _ _ o_h0
      refine W_led (fun hLd => ?_)
      have hcl : 0 + dc_5 + dc_17 + dc_39 + dc_64 + dc_83 + PC ws_80 ≤ PC ws + (0) := (by omega)
      have hsl : 0 + ds_6 + ds_18 + ds_40 + ds_65 + ds_84 + PS ws_80 ≤ PS ws + (0) := (by omega)
      refine W.widen (k := PC ws + (0)) (n := PS ws + (0)) (by omega) (by omega) ?_
      have tq_87 : wcP ws_80 h0 0 (wb) (6) := wcP_le (by have e0 : (0 : Int32).toInt = 0 := (by decide); have e09 : (0 : Int32).toInt = 0 := rfl; omega) (by have q_pwc := pwc; have e09 : (0 : Int32).toInt = 0 := rfl; omega) (by have e6 : (6 : Int32).toInt = 6 := (by decide); have e09 : (0 : Int32).toInt = 0 := rfl; omega) xp_86
      exact W.iret (v := r_79) hx hb hr (fun t9 ht9 hW9 => ⟨⟨_, ws_80, rfl, ⟨trivial, xp_85, tq_87⟩, ⟨(E_3.tr (E_15.tr (E_37.tr (E_62.tr E_81)))), (gF.tr (gF.mo (F' := [(0, 0), (0, 1), (10, 5), (10, 6)]) (C' := [(0, 0), (6, 0), (10, 3), (10, 4)]) (S' := none) Fr_4 (by decide) (by decide) (Or.inr rfl)) (gF.tr (gF.mo (F' := [(0, 0), (0, 1), (10, 5), (10, 6)]) (C' := [(0, 0), (6, 0), (10, 3), (10, 4)]) (S' := none) Fr_16 (by decide) (by decide) (Or.inl rfl)) (gF.tr (gF.mo (F' := [(0, 0), (0, 1), (10, 5), (10, 6)]) (C' := [(0, 0), (6, 0), (10, 3), (10, 4)]) (S' := none) Fr_38 (by decide) (by decide) (Or.inl rfl)) (gF.tr (gF.mo (F' := [(0, 0), (0, 1), (10, 5), (10, 6)]) (C' := [(0, 0), (6, 0), (10, 3), (10, 4)]) (S' := none) Fr_63 (by decide) (by decide) (Or.inl rfl)) Fr_82)))), hG, by rw [ht9]; exact hP, hD, _, _, by rw [ht9]; exact hLd, hcl, hsl⟩⟩, hS.F ht9⟩) hS.2.2 dX11_counterEntry_70
    · refine lv_aload_n hx hb dX11_counterEntry_38 rfl (lv_at hl 0 rfl) ?_
      obtain ⟨fs9, hk_88, hq_88⟩ := ((gF.a (F' := [(0, 0), (0, 1)]) Fr_38 (fun _ h => h))) _ _ _ hk_30
      obtain ⟨r0_88, r1_88, r2_88, r3_88, n3_88, r4_88, n4_88, c5_88, c6_88, v7_88, c8_88, c9_88, r10_88, n10_88, r11_88, n11_88, r12_88, n12_88, r13_88, n13_88, r14_88, v15_88, r16_88, n16_88, r17_88, n17_88, rfl, o_r0_88, o_r1_88, o_r2_88, a_r3_88, f4_88, a_r4_88, f6_88, hz_c6_88, o_v7_88, a_r10_88, f10_88, a_r11_88, f12_88, a_r12_88, f14_88, a_r13_88, f16_88, o_r14_88, o_v15_88, a_r16_88, f20_88, a_r17_88, f22_88, f23_88, f24_88, f25_88, f26_88, f27_88, f28_88, -⟩ := (hG.1 _ _ _ _ hk_88).hX11 rfl
      obtain rfl := fe_r (hq_88 2 (by decide))
      have o_r2_8 := o_r2_88
      obtain rfl := fe_q (hq_88 7 (by decide))
      have o_v7_8 := o_v7_88
      obtain rfl := fe_q (hq_88 15 (by decide))
      have o_v15_8 := o_v15_88
      refine va_get (D := gD g) (ci := 10) (v := .ref r2_8) (C := RX11) (T := TX11) (N := 18) hx hb hts inX11 hown hK hP k_8 hk_88 rfl 2 (by decide) (hts _ kw_139) (fun _ h9 => h9) rfl dX11_counterEntry_39 ?_
      refine lv_bipush (v := 48) hx hb dX11_counterEntry_42 (by decide) ?_
      refine lv_iload_n hx hb dX11_counterEntry_44 rfl (lv_at hl 1 rfl) ?_
      refine lv_bipush (v := 10) hx hb dX11_counterEntry_45 (by decide) ?_
      refine lv_idiv hx hb dX11_counterEntry_47 (by decide) ?_
      refine lv_topi (fun z_89 ez_89 => ?_)
      refine lv_iadd hx hb dX11_counterEntry_48 ?_
      refine lv_topi (fun z_90 ez_90 => ?_)
      obtain ⟨fs9, hk_91, hq_91⟩ := ((gF.a (F' := [(0, 0), (0, 1)]) Fr_38 (fun _ h => h))) _ _ _ hk_31
      obtain ⟨r0_91, n0_91, c1_91, rfl, a_r0_91, f1_91, f2_91, f3_91, f4_91, f5_91, -⟩ := (hG.1 _ _ _ _ hk_91).hX0 rfl
      have kq_92 := kf_41 _ _ _ hk_91 _ rfl
      have wb_93 : c1_91.toInt ≤ (((1) + 2) + 1) := wcP_u2 hD hk_88 rfl hk_91 rfl tq_51
      have hkW := hk_88
      have hDW := hD
      have hFc := gfree hD hS hA
      have pg_94 := ge_10_17 hD hk_88 rfl a_r17_88
      have pg_95 := ge_0_0 hD hk_91 rfl a_r0_91
      refine W_led (fun hL0 => ?_)
      refine va_callv (va_runV (As := [.int z_90]) (rest := []) ⟨hx, hb, hml, hown, hts⟩ (m_X0_put l g H ws_36 r2_8 (z_90) (c1_91) hG o_r2_8 (gP_of hD hk_91 (fun q90 e90 => by cases e90; exact (by have q_f2_91 := f2_91; have q_f3_91 := f3_91; have q_kq_92 := kq_92; have q_wb_93 := wb_93; have q_f2_31 := f2_31; have q_f3_31 := f3_31; have q_kq_32 := kq_32; have q_wb_33 := wb_33; have q_f1_91 := f1_91; have q_f4_91 := f4_91; have q_f5_91 := f5_91; have q_f2_10 := f2_10; have q_f3_10 := f3_10; have q_wb_11 := wb_11; have q_f1_31 := f1_31; have q_f4_31 := f4_31; have q_f5_31 := f5_31; have g_c1_10 := i_rg c1_10; have g_c1_31 := i_rg c1_31; have g_c1_91 := i_rg c1_91; omega))) (gP_of hD hk_91 (fun q90 e90 => by cases e90; exact (by have q_f2_91 := f2_91; have q_f3_91 := f3_91; have q_kq_92 := kq_92; have q_wb_93 := wb_93; have q_f2_31 := f2_31; have q_f3_31 := f3_31; have q_kq_32 := kq_32; have q_wb_33 := wb_33; have q_f1_91 := f1_91; have q_f4_91 := f4_91; have q_f5_91 := f5_91; have q_f2_10 := f2_10; have q_f3_10 := f3_10; have q_wb_11 := wb_11; have q_f1_31 := f1_31; have q_f4_31 := f4_31; have q_f5_31 := f5_31; have g_c1_10 := i_rg c1_10; have g_c1_31 := i_rg c1_31; have g_c1_91 := i_rg c1_91; omega)))) (cwV 1 hts (gd_V kw_140 kw_13 kw_14 kw_3 kw_12) rfl rfl rfl (by decide +kernel) ⟨Nat.le_of_ble_eq_true rfl, Nat.le_of_ble_eq_true rfl⟩) ⟨gblindH, va_recv hK hP (ci := 0) (q0 := k_10) rfl hk_91, fun U hU hW9 => gmkH hU hW9 hP hK hD hex hE hS hFc⟩ rfl rfl hl.1 rfl (lv_room (Nat.le_of_ble_eq_true rfl)) dX11_counterEntry_49 ⟨(show 0 + dc_5 + dc_17 + dc_39 + (PC ws_36 + (0)) ≤ PC ws + (0) from (by have e0 : (0 : Int32).toInt = 0 := (by decide); omega)), (show 0 + ds_6 + ds_18 + ds_40 + (PS ws_36 + (0)) ≤ PS ws + (0) from (by have e0 : (0 : Int32).toInt = 0 := (by decide); omega))⟩) hS (fun q _ h => hFc q h) hFc (fun  ws_96 t9 H1 locs ht9 hvm9 hw9 hB9 hz9 hk9 hS => ?_)
      obtain ⟨E_97, Fr_98, hG, hP1, hD1, dc_99, ds_100, hLd, hdc_99, hds_100⟩ := hB9
      rw [ht9] at hLd
      refine W_tight (hL0.tr hLd).1 (hL0.tr hLd).2.1 ?_
      clear hL0 hLd
      have hP : va_P (gD g) cl0 ws_96 H1 := by rw [← ht9]; exact hP1
      have hD : va_D A ws_96 := hD1.weaken (fun _ _ _ h => hFc _ h)
      have kf_101 := hw9
      clear hP1 hD1 hz9 hk9 hvm9 ht9 hw9
      generalize H1 = H at hP hS ⊢
      have aa_102 := a_r3_88
      have aa_103 := a_r4_88
      have aa_104 := a_r10_88
      have aa_105 := a_r11_88
      have aa_106 := a_r12_88
      have aa_107 := a_r13_88
      have aa_108 := a_r16_88
      have aa_109 := a_r17_88
      have aa_110 := a_r0_91
      have o_h0 := E_97.1 _ _ o_h0
      have tq_111 : wcP ws_96 h0 0 (wb) ((((1) + 2) + 1) + 1) := wcP_2 hDW hG Fr_98 (by decide) (by decide) (by decide) (by decide) hkW rfl (fun k9 ci9 fs9 h9 c9 e9 => by have w9 := kf_101 _ _ _ h9 c9 e9; omega) tq_51
      refine lv_aload_n hx hb dX11_counterEntry_52 rfl (lv_at hl 0 rfl) ?_
      obtain ⟨fs9, hk_112, hq_112⟩ := ((gF.a (F' := [(0, 0), (0, 1)]) Fr_98 (fun _ h => h))) _ _ _ hk_88
      obtain ⟨r0_112, r1_112, r2_112, r3_112, n3_112, r4_112, n4_112, c5_112, c6_112, v7_112, c8_112, c9_112, r10_112, n10_112, r11_112, n11_112, r12_112, n12_112, r13_112, n13_112, r14_112, v15_112, r16_112, n16_112, r17_112, n17_112, rfl, o_r0_112, o_r1_112, o_r2_112, a_r3_112, f4_112, a_r4_112, f6_112, hz_c6_112, o_v7_112, a_r10_112, f10_112, a_r11_112, f12_112, a_r12_112, f14_112, a_r13_112, f16_112, o_r14_112, o_v15_112, a_r16_112, f20_112, a_r17_112, f22_112, f23_112, f24_112, f25_112, f26_112, f27_112, f28_112, -⟩ := (hG.1 _ _ _ _ hk_112).hX11 rfl
      obtain rfl := fe_r (hq_112 2 (by decide))
      have o_r2_8 := o_r2_112
      obtain rfl := fe_q (hq_112 7 (by decide))
      have o_v7_8 := o_v7_112
      obtain rfl := fe_q (hq_112 15 (by decide))
      have o_v15_8 := o_v15_112
      refine va_get (D := gD g) (ci := 10) (v := .ref r2_8) (C := RX11) (T := TX11) (N := 18) hx hb hts inX11 hown hK hP k_8 hk_112 rfl 2 (by decide) (hts _ kw_139) (fun _ h9 => h9) rfl dX11_counterEntry_53 ?_
      refine lv_bipush (v := 48) hx hb dX11_counterEntry_56 (by decide) ?_
      refine lv_iload_n hx hb dX11_counterEntry_58 rfl (lv_at hl 1 rfl) ?_
      refine lv_bipush (v := 10) hx hb dX11_counterEntry_59 (by decide) ?_
      refine lv_irem hx hb dX11_counterEntry_61 (by decide) ?_
      refine lv_topi (fun z_113 ez_113 => ?_)
      refine lv_iadd hx hb dX11_counterEntry_62 ?_
      refine lv_topi (fun z_114 ez_114 => ?_)
      obtain ⟨fs9, hk_115, hq_115⟩ := ((gF.a (F' := [(0, 0), (0, 1)]) Fr_98 (fun _ h => h))) _ _ _ hk_91
      obtain ⟨r0_115, n0_115, c1_115, rfl, a_r0_115, f1_115, f2_115, f3_115, f4_115, f5_115, -⟩ := (hG.1 _ _ _ _ hk_115).hX0 rfl
      have kq_116 := kf_101 _ _ _ hk_115 _ rfl
      have wb_117 : c1_115.toInt ≤ ((((1) + 2) + 1) + 1) := wcP_u2 hD hk_112 rfl hk_115 rfl tq_111
      have hkW := hk_112
      have hDW := hD
      have hFc := gfree hD hS hA
      have pg_118 := ge_10_17 hD hk_112 rfl a_r17_112
      have pg_119 := ge_0_0 hD hk_115 rfl a_r0_115
      refine W_led (fun hL0 => ?_)
      refine va_callv (va_runV (As := [.int z_114]) (rest := []) ⟨hx, hb, hml, hown, hts⟩ (m_X0_put l g H ws_96 r2_8 (z_114) (c1_115) hG o_r2_8 (gP_of hD hk_115 (fun q90 e90 => by cases e90; exact (by have q_f2_115 := f2_115; have q_f3_115 := f3_115; have q_kq_116 := kq_116; have q_wb_117 := wb_117; have q_f2_91 := f2_91; have q_f3_91 := f3_91; have q_kq_92 := kq_92; have q_wb_93 := wb_93; have q_f1_115 := f1_115; have q_f4_115 := f4_115; have q_f5_115 := f5_115; have q_f2_31 := f2_31; have q_f3_31 := f3_31; have q_kq_32 := kq_32; have q_wb_33 := wb_33; have q_f1_91 := f1_91; have q_f4_91 := f4_91; have q_f5_91 := f5_91; have g_c1_10 := i_rg c1_10; have g_c1_115 := i_rg c1_115; have g_c1_31 := i_rg c1_31; have g_c1_91 := i_rg c1_91; omega))) (gP_of hD hk_115 (fun q90 e90 => by cases e90; exact (by have q_f2_115 := f2_115; have q_f3_115 := f3_115; have q_kq_116 := kq_116; have q_wb_117 := wb_117; have q_f2_91 := f2_91; have q_f3_91 := f3_91; have q_kq_92 := kq_92; have q_wb_93 := wb_93; have q_f1_115 := f1_115; have q_f4_115 := f4_115; have q_f5_115 := f5_115; have q_f2_31 := f2_31; have q_f3_31 := f3_31; have q_kq_32 := kq_32; have q_wb_33 := wb_33; have q_f1_91 := f1_91; have q_f4_91 := f4_91; have q_f5_91 := f5_91; have g_c1_10 := i_rg c1_10; have g_c1_115 := i_rg c1_115; have g_c1_31 := i_rg c1_31; have g_c1_91 := i_rg c1_91; omega)))) (cwV 1 hts (gd_V kw_140 kw_13 kw_14 kw_3 kw_12) rfl rfl rfl (by decide +kernel) ⟨Nat.le_of_ble_eq_true rfl, Nat.le_of_ble_eq_true rfl⟩) ⟨gblindH, va_recv hK hP (ci := 0) (q0 := k_10) rfl hk_115, fun U hU hW9 => gmkH hU hW9 hP hK hD hex hE hS hFc⟩ rfl rfl hl.1 rfl (lv_room (Nat.le_of_ble_eq_true rfl)) dX11_counterEntry_63 ⟨(show 0 + dc_5 + dc_17 + dc_39 + dc_99 + (PC ws_96 + (0)) ≤ PC ws + (0) from (by have e0 : (0 : Int32).toInt = 0 := (by decide); omega)), (show 0 + ds_6 + ds_18 + ds_40 + ds_100 + (PS ws_96 + (0)) ≤ PS ws + (0) from (by have e0 : (0 : Int32).toInt = 0 := (by decide); omega))⟩) hS (fun q _ h => hFc q h) hFc (fun  ws_120 t9 H1 locs ht9 hvm9 hw9 hB9 hz9 hk9 hS => ?_)
      obtain ⟨E_121, Fr_122, hG, hP1, hD1, dc_123, ds_124, hLd, hdc_123, hds_124⟩ := hB9
      rw [ht9] at hLd
      refine W_tight (hL0.tr hLd).1 (hL0.tr hLd).2.1 ?_
      clear hL0 hLd
      have hP : va_P (gD g) cl0 ws_120 H1 := by rw [← ht9]; exact hP1
      have hD : va_D A ws_120 := hD1.weaken (fun _ _ _ h => hFc _ h)
      have kf_125 := hw9
      clear hP1 hD1 hz9 hk9 hvm9 ht9 hw9
      generalize H1 = H at hP hS ⊢
      have aa_126 := a_r3_112
      have aa_127 := a_r4_112
      have aa_128 := a_r10_112
      have aa_129 := a_r11_112
      have aa_130 := a_r12_112
      have aa_131 := a_r13_112
      have aa_132 := a_r16_112
      have aa_133 := a_r17_112
      have aa_134 := a_r0_115
      have o_h0 := E_121.1 _ _ o_h0
      have tq_135 : wcP ws_120 h0 0 (wb) (((((1) + 2) + 1) + 1) + 1) := wcP_2 hDW hG Fr_122 (by decide) (by decide) (by decide) (by decide) hkW rfl (fun k9 ci9 fs9 h9 c9 e9 => by have w9 := kf_125 _ _ _ h9 c9 e9; omega) tq_111
      refine lv_aload_n hx hb dX11_counterEntry_66 rfl (lv_at hl 0 rfl) ?_
      have tq_136 : enP g ws_120 h0 := enP_mo ((gF.tr Fr_4 (gF.tr (gF.mo (F' := [(0, 0), (0, 1)]) (C' := [(0, 0), (6, 0)]) (S' := none) Fr_16 (fun _ h => h) (fun _ h => h) (Or.inl rfl)) (gF.tr (gF.mo (F' := [(0, 0), (0, 1)]) (C' := [(0, 0), (6, 0)]) (S' := none) Fr_38 (fun _ h => h) (fun _ h => h) (Or.inl rfl)) (gF.tr (gF.mo (F' := [(0, 0), (0, 1)]) (C' := [(0, 0), (6, 0)]) (S' := none) Fr_98 (fun _ h => h) (fun _ h => h) (Or.inl rfl)) (gF.mo (F' := [(0, 0), (0, 1)]) (C' := [(0, 0), (6, 0)]) (S' := none) Fr_122 (fun _ h => h) (fun _ h => h) (Or.inl rfl))))))) (by decide) (by decide) (by decide) tk0
      have hFc := gfree hD hS hA
      refine W_led (fun hL0 => ?_)
      obtain ⟨k_137, fs_137, hk_137⟩ := gC_of o_h0
      refine va_calli (va_runV (As := []) (rest := []) ⟨hx, hb, hml, hown, hts⟩ (m_X11_entryOfWanted l g H ws_120 h0 (wb) (((((1) + 2) + 1) + 1) + 1) hG o_h0 tq_136 tq_135 (by omega) (by have q_pwc := pwc; omega)) (cwV 0 hts (gd_V kw_141 kw_143 kw_144 kw_83 kw_142) rfl rfl rfl (by decide +kernel) ⟨Nat.le_of_ble_eq_true rfl, Nat.le_of_ble_eq_true rfl⟩) ⟨gblindH, va_recv hK hP (ci := 10) (q0 := k_137) rfl hk_137, fun U hU hW9 => gmkH hU hW9 hP hK hD hex hE hS hFc⟩ rfl rfl hl.1 rfl (lv_room (Nat.le_of_ble_eq_true rfl)) dX11_counterEntry_67 ⟨(show 0 + dc_5 + dc_17 + dc_39 + dc_99 + dc_123 + (PC ws_120 + (0)) ≤ PC ws + (0) from (by have e0 : (0 : Int32).toInt = 0 := (by decide); omega)), (show 0 + ds_6 + ds_18 + ds_40 + ds_100 + ds_124 + (PS ws_120 + (0)) ≤ PS ws + (0) from (by have e0 : (0 : Int32).toInt = 0 := (by decide); omega))⟩) hS (fun q _ h => hFc q h) hFc (fun r_138 ws_139 t9 H1 locs ht9 hvm9 hw9 hB9 hz9 hk9 hS => ?_)
      obtain ⟨E_140, Fr_141, hG, hP1, hD1, dc_142, ds_143, hLd, hdc_142, hds_143⟩ := hB9
      rw [ht9] at hLd
      refine W_tight (hL0.tr hLd).1 (hL0.tr hLd).2.1 ?_
      clear hL0 hLd
      have hP : va_P (gD g) cl0 ws_139 H1 := by rw [← ht9]; exact hP1
      have hD : va_D A ws_139 := hD1.weaken (fun _ _ _ h => hFc _ h)
      obtain ⟨hw9, xp_144, xp_145⟩ := hw9
      clear hP1 hD1 hz9 hk9 hvm9 ht9 hw9
      generalize H1 = H at hP hS ⊢
      have o_h0 := E_140.1 _ _ o_h0
      refine W_led (fun hLd => ?_)
      have hcl : 0 + dc_5 + dc_17 + dc_39 + dc_99 + dc_123 + dc_142 + PC ws_139 ≤ PC ws + (0) := (by omega)
      have hsl : 0 + ds_6 + ds_18 + ds_40 + ds_100 + ds_124 + ds_143 + PS ws_139 ≤ PS ws + (0) := (by omega)
      refine W.widen (k := PC ws + (0)) (n := PS ws + (0)) (by omega) (by omega) ?_
      have tq_146 : wcP ws_139 h0 0 (wb) (6) := wcP_le (by have e0 : (0 : Int32).toInt = 0 := (by decide); have e09 : (0 : Int32).toInt = 0 := rfl; omega) (by have q_pwc := pwc; have e09 : (0 : Int32).toInt = 0 := rfl; omega) (by have e6 : (6 : Int32).toInt = 6 := (by decide); have e09 : (0 : Int32).toInt = 0 := rfl; omega) xp_145
      exact W.iret (v := r_138) hx hb hr (fun t9 ht9 hW9 => ⟨⟨_, ws_139, rfl, ⟨trivial, xp_144, tq_146⟩, ⟨(E_3.tr (E_15.tr (E_37.tr (E_97.tr (E_121.tr E_140))))), (gF.tr (gF.mo (F' := [(0, 0), (0, 1), (10, 5), (10, 6)]) (C' := [(0, 0), (6, 0), (10, 3), (10, 4)]) (S' := none) Fr_4 (by decide) (by decide) (Or.inr rfl)) (gF.tr (gF.mo (F' := [(0, 0), (0, 1), (10, 5), (10, 6)]) (C' := [(0, 0), (6, 0), (10, 3), (10, 4)]) (S' := none) Fr_16 (by decide) (by decide) (Or.inl rfl)) (gF.tr (gF.mo (F' := [(0, 0), (0, 1), (10, 5), (10, 6)]) (C' := [(0, 0), (6, 0), (10, 3), (10, 4)]) (S' := none) Fr_38 (by decide) (by decide) (Or.inl rfl)) (gF.tr (gF.mo (F' := [(0, 0), (0, 1), (10, 5), (10, 6)]) (C' := [(0, 0), (6, 0), (10, 3), (10, 4)]) (S' := none) Fr_98 (by decide) (by decide) (Or.inl rfl)) (gF.tr (gF.mo (F' := [(0, 0), (0, 1), (10, 5), (10, 6)]) (C' := [(0, 0), (6, 0), (10, 3), (10, 4)]) (S' := none) Fr_122 (by decide) (by decide) (Or.inl rfl)) Fr_141))))), hG, by rw [ht9]; exact hP, hD, _, _, by rw [ht9]; exact hLd, hcl, hsl⟩⟩, hS.F ht9⟩) hS.2.2 dX11_counterEntry_70
  · refine lv_iconst (v := 2) hx hb dX11_counterEntry_15 (by decide) ?_
    refine lv_goto (tgt := 20) hx hb dX11_counterEntry_16 (by decide) ?_
    obtain ⟨k_147, fs9, hk_147⟩ := gC_of o_r2_8
    obtain ⟨r0_147, n0_147, c1_147, rfl, a_r0_147, f1_147, f2_147, f3_147, f4_147, f5_147, -⟩ := (hG.1 _ _ _ _ hk_147).hX0 rfl
    have wb_148 : c1_147.toInt ≤ (1) := wcP_u2 hD hk_8 rfl hk_147 rfl xp_7
    have hkW := hk_8
    have hDW := hD
    have hFc := gfree hD hS hA
    have pg_149 := ge_0_0 hD hk_147 rfl a_r0_147
    refine W_led (fun hL0 => ?_)
    refine va_callv (va_runV (As := [.int 2]) (rest := []) ⟨hx, hb, hml, hown, hts⟩ (m_X0_put2 l g H ws_2 r2_8 (2) (c1_147) hG o_r2_8 (gP_of hD hk_147 (fun q90 e90 => by cases e90; exact (by have q_f2_147 := f2_147; have q_f3_147 := f3_147; have q_wb_148 := wb_148; have q_f1_147 := f1_147; have q_f4_147 := f4_147; have q_f5_147 := f5_147; have g_c1_147 := i_rg c1_147; omega))) (gP_of hD hk_147 (fun q90 e90 => by cases e90; exact (by have q_f2_147 := f2_147; have q_f3_147 := f3_147; have q_wb_148 := wb_148; have q_f1_147 := f1_147; have q_f4_147 := f4_147; have q_f5_147 := f5_147; have g_c1_147 := i_rg c1_147; omega)))) (cwV 1 hts (gd_V kw_96 kw_17 kw_18 kw_3 kw_16) rfl rfl rfl (by decide +kernel) ⟨Nat.le_of_ble_eq_true rfl, Nat.le_of_ble_eq_true rfl⟩) ⟨gblindH, va_recv hK hP (ci := 0) (q0 := k_147) rfl hk_147, fun U hU hW9 => gmkH hU hW9 hP hK hD hex hE hS hFc⟩ rfl rfl hl.1 rfl (lv_room (Nat.le_of_ble_eq_true rfl)) dX11_counterEntry_20 ⟨(show 0 + dc_5 + (PC ws_2 + (0)) ≤ PC ws + (0) from (by have e0 : (0 : Int32).toInt = 0 := (by decide); omega)), (show 0 + ds_6 + (PS ws_2 + (0)) ≤ PS ws + (0) from (by have e0 : (0 : Int32).toInt = 0 := (by decide); omega))⟩) hS (fun q _ h => hFc q h) hFc (fun  ws_150 t9 H1 locs ht9 hvm9 hw9 hB9 hz9 hk9 hS => ?_)
    obtain ⟨E_151, Fr_152, hG, hP1, hD1, dc_153, ds_154, hLd, hdc_153, hds_154⟩ := hB9
    rw [ht9] at hLd
    refine W_tight (hL0.tr hLd).1 (hL0.tr hLd).2.1 ?_
    clear hL0 hLd
    have hP : va_P (gD g) cl0 ws_150 H1 := by rw [← ht9]; exact hP1
    have hD : va_D A ws_150 := hD1.weaken (fun _ _ _ h => hFc _ h)
    have kf_155 := hw9
    clear hP1 hD1 hz9 hk9 hvm9 ht9 hw9
    generalize H1 = H at hP hS ⊢
    have aa_156 := a_r3_8
    have aa_157 := a_r4_8
    have aa_158 := a_r10_8
    have aa_159 := a_r11_8
    have aa_160 := a_r12_8
    have aa_161 := a_r13_8
    have aa_162 := a_r16_8
    have aa_163 := a_r17_8
    have aa_164 := a_r0_147
    have o_h0 := E_151.1 _ _ o_h0
    have tq_165 : wcP ws_150 h0 0 (wb) ((1) + 2) := wcP_2 hDW hG Fr_152 (by decide) (by decide) (by decide) (by decide) hkW rfl (fun k9 ci9 fs9 h9 c9 e9 => by have w9 := kf_155 _ _ _ h9 c9 e9; omega) xp_7
    refine lv_aload_n hx hb dX11_counterEntry_23 rfl (lv_at hl 0 rfl) ?_
    obtain ⟨fs9, hk_166, hq_166⟩ := ((gF.a (F' := [(0, 0), (0, 1)]) Fr_152 (fun _ h => h))) _ _ _ hk_8
    obtain ⟨r0_166, r1_166, r2_166, r3_166, n3_166, r4_166, n4_166, c5_166, c6_166, v7_166, c8_166, c9_166, r10_166, n10_166, r11_166, n11_166, r12_166, n12_166, r13_166, n13_166, r14_166, v15_166, r16_166, n16_166, r17_166, n17_166, rfl, o_r0_166, o_r1_166, o_r2_166, a_r3_166, f4_166, a_r4_166, f6_166, hz_c6_166, o_v7_166, a_r10_166, f10_166, a_r11_166, f12_166, a_r12_166, f14_166, a_r13_166, f16_166, o_r14_166, o_v15_166, a_r16_166, f20_166, a_r17_166, f22_166, f23_166, f24_166, f25_166, f26_166, f27_166, f28_166, -⟩ := (hG.1 _ _ _ _ hk_166).hX11 rfl
    obtain rfl := fe_r (hq_166 2 (by decide))
    have o_r2_8 := o_r2_166
    obtain rfl := fe_q (hq_166 7 (by decide))
    have o_v7_8 := o_v7_166
    obtain rfl := fe_q (hq_166 15 (by decide))
    have o_v15_8 := o_v15_166
    refine va_get (D := gD g) (ci := 10) (v := .ref r2_8) (C := RX11) (T := TX11) (N := 18) hx hb hts inX11 hown hK hP k_8 hk_166 rfl 2 (by decide) (hts _ kw_139) (fun _ h9 => h9) rfl dX11_counterEntry_24 ?_
    refine lv_bipush (v := 99) hx hb dX11_counterEntry_27 (by decide) ?_
    obtain ⟨fs9, hk_167, hq_167⟩ := ((gF.a (F' := [(0, 0), (0, 1)]) Fr_152 (fun _ h => h))) _ _ _ hk_147
    obtain ⟨r0_167, n0_167, c1_167, rfl, a_r0_167, f1_167, f2_167, f3_167, f4_167, f5_167, -⟩ := (hG.1 _ _ _ _ hk_167).hX0 rfl
    have kq_168 := kf_155 _ _ _ hk_167 _ rfl
    have wb_169 : c1_167.toInt ≤ ((1) + 2) := wcP_u2 hD hk_166 rfl hk_167 rfl tq_165
    have hkW := hk_166
    have hDW := hD
    have hFc := gfree hD hS hA
    have pg_170 := ge_10_17 hD hk_166 rfl a_r17_166
    have pg_171 := ge_0_0 hD hk_167 rfl a_r0_167
    refine W_led (fun hL0 => ?_)
    refine va_callv (va_runV (As := [.int 99]) (rest := []) ⟨hx, hb, hml, hown, hts⟩ (m_X0_put l g H ws_150 r2_8 (99) (c1_167) hG o_r2_8 (gP_of hD hk_167 (fun q90 e90 => by cases e90; exact (by have q_f2_167 := f2_167; have q_f3_167 := f3_167; have q_kq_168 := kq_168; have q_wb_169 := wb_169; have q_f2_147 := f2_147; have q_f3_147 := f3_147; have q_wb_148 := wb_148; have q_f1_167 := f1_167; have q_f4_167 := f4_167; have q_f5_167 := f5_167; have q_f1_147 := f1_147; have q_f4_147 := f4_147; have q_f5_147 := f5_147; have g_c1_147 := i_rg c1_147; have g_c1_167 := i_rg c1_167; omega))) (gP_of hD hk_167 (fun q90 e90 => by cases e90; exact (by have q_f2_167 := f2_167; have q_f3_167 := f3_167; have q_kq_168 := kq_168; have q_wb_169 := wb_169; have q_f2_147 := f2_147; have q_f3_147 := f3_147; have q_wb_148 := wb_148; have q_f1_167 := f1_167; have q_f4_167 := f4_167; have q_f5_167 := f5_167; have q_f1_147 := f1_147; have q_f4_147 := f4_147; have q_f5_147 := f5_147; have g_c1_147 := i_rg c1_147; have g_c1_167 := i_rg c1_167; omega)))) (cwV 1 hts (gd_V kw_140 kw_13 kw_14 kw_3 kw_12) rfl rfl rfl (by decide +kernel) ⟨Nat.le_of_ble_eq_true rfl, Nat.le_of_ble_eq_true rfl⟩) ⟨gblindH, va_recv hK hP (ci := 0) (q0 := k_147) rfl hk_167, fun U hU hW9 => gmkH hU hW9 hP hK hD hex hE hS hFc⟩ rfl rfl hl.1 rfl (lv_room (Nat.le_of_ble_eq_true rfl)) dX11_counterEntry_29 ⟨(show 0 + dc_5 + dc_153 + (PC ws_150 + (0)) ≤ PC ws + (0) from (by have e0 : (0 : Int32).toInt = 0 := (by decide); omega)), (show 0 + ds_6 + ds_154 + (PS ws_150 + (0)) ≤ PS ws + (0) from (by have e0 : (0 : Int32).toInt = 0 := (by decide); omega))⟩) hS (fun q _ h => hFc q h) hFc (fun  ws_172 t9 H1 locs ht9 hvm9 hw9 hB9 hz9 hk9 hS => ?_)
    obtain ⟨E_173, Fr_174, hG, hP1, hD1, dc_175, ds_176, hLd, hdc_175, hds_176⟩ := hB9
    rw [ht9] at hLd
    refine W_tight (hL0.tr hLd).1 (hL0.tr hLd).2.1 ?_
    clear hL0 hLd
    have hP : va_P (gD g) cl0 ws_172 H1 := by rw [← ht9]; exact hP1
    have hD : va_D A ws_172 := hD1.weaken (fun _ _ _ h => hFc _ h)
    have kf_177 := hw9
    clear hP1 hD1 hz9 hk9 hvm9 ht9 hw9
    generalize H1 = H at hP hS ⊢
    have aa_178 := a_r3_166
    have aa_179 := a_r4_166
    have aa_180 := a_r10_166
    have aa_181 := a_r11_166
    have aa_182 := a_r12_166
    have aa_183 := a_r13_166
    have aa_184 := a_r16_166
    have aa_185 := a_r17_166
    have aa_186 := a_r0_167
    have o_h0 := E_173.1 _ _ o_h0
    have tq_187 : wcP ws_172 h0 0 (wb) (((1) + 2) + 1) := wcP_2 hDW hG Fr_174 (by decide) (by decide) (by decide) (by decide) hkW rfl (fun k9 ci9 fs9 h9 c9 e9 => by have w9 := kf_177 _ _ _ h9 c9 e9; omega) tq_165
    refine lv_iload_n hx hb dX11_counterEntry_32 rfl (lv_at hl 1 rfl) ?_
    refine lv_bipush (v := 10) hx hb dX11_counterEntry_33 (by decide) ?_
    refine lv_icmp_lt (tgt := 52) hx hb dX11_counterEntry_35 (by decide) (fun c_188 => ?_) (fun c_188 => ?_)
    · refine lv_aload_n hx hb dX11_counterEntry_52 rfl (lv_at hl 0 rfl) ?_
      obtain ⟨fs9, hk_189, hq_189⟩ := ((gF.a (F' := [(0, 0), (0, 1)]) Fr_174 (fun _ h => h))) _ _ _ hk_166
      obtain ⟨r0_189, r1_189, r2_189, r3_189, n3_189, r4_189, n4_189, c5_189, c6_189, v7_189, c8_189, c9_189, r10_189, n10_189, r11_189, n11_189, r12_189, n12_189, r13_189, n13_189, r14_189, v15_189, r16_189, n16_189, r17_189, n17_189, rfl, o_r0_189, o_r1_189, o_r2_189, a_r3_189, f4_189, a_r4_189, f6_189, hz_c6_189, o_v7_189, a_r10_189, f10_189, a_r11_189, f12_189, a_r12_189, f14_189, a_r13_189, f16_189, o_r14_189, o_v15_189, a_r16_189, f20_189, a_r17_189, f22_189, f23_189, f24_189, f25_189, f26_189, f27_189, f28_189, -⟩ := (hG.1 _ _ _ _ hk_189).hX11 rfl
      obtain rfl := fe_r (hq_189 2 (by decide))
      have o_r2_8 := o_r2_189
      obtain rfl := fe_q (hq_189 7 (by decide))
      have o_v7_8 := o_v7_189
      obtain rfl := fe_q (hq_189 15 (by decide))
      have o_v15_8 := o_v15_189
      refine va_get (D := gD g) (ci := 10) (v := .ref r2_8) (C := RX11) (T := TX11) (N := 18) hx hb hts inX11 hown hK hP k_8 hk_189 rfl 2 (by decide) (hts _ kw_139) (fun _ h9 => h9) rfl dX11_counterEntry_53 ?_
      refine lv_bipush (v := 48) hx hb dX11_counterEntry_56 (by decide) ?_
      refine lv_iload_n hx hb dX11_counterEntry_58 rfl (lv_at hl 1 rfl) ?_
      refine lv_bipush (v := 10) hx hb dX11_counterEntry_59 (by decide) ?_
      refine lv_irem hx hb dX11_counterEntry_61 (by decide) ?_
      refine lv_topi (fun z_190 ez_190 => ?_)
      refine lv_iadd hx hb dX11_counterEntry_62 ?_
      refine lv_topi (fun z_191 ez_191 => ?_)
      obtain ⟨fs9, hk_192, hq_192⟩ := ((gF.a (F' := [(0, 0), (0, 1)]) Fr_174 (fun _ h => h))) _ _ _ hk_167
      obtain ⟨r0_192, n0_192, c1_192, rfl, a_r0_192, f1_192, f2_192, f3_192, f4_192, f5_192, -⟩ := (hG.1 _ _ _ _ hk_192).hX0 rfl
      have kq_193 := kf_177 _ _ _ hk_192 _ rfl
      have wb_194 : c1_192.toInt ≤ (((1) + 2) + 1) := wcP_u2 hD hk_189 rfl hk_192 rfl tq_187
      have hkW := hk_189
      have hDW := hD
      have hFc := gfree hD hS hA
      have pg_195 := ge_10_17 hD hk_189 rfl a_r17_189
      have pg_196 := ge_0_0 hD hk_192 rfl a_r0_192
      refine W_led (fun hL0 => ?_)
      refine va_callv (va_runV (As := [.int z_191]) (rest := []) ⟨hx, hb, hml, hown, hts⟩ (m_X0_put l g H ws_172 r2_8 (z_191) (c1_192) hG o_r2_8 (gP_of hD hk_192 (fun q90 e90 => by cases e90; exact (by have q_f2_192 := f2_192; have q_f3_192 := f3_192; have q_kq_193 := kq_193; have q_wb_194 := wb_194; have q_f2_167 := f2_167; have q_f3_167 := f3_167; have q_kq_168 := kq_168; have q_wb_169 := wb_169; have q_f1_192 := f1_192; have q_f4_192 := f4_192; have q_f5_192 := f5_192; have q_f2_147 := f2_147; have q_f3_147 := f3_147; have q_wb_148 := wb_148; have q_f1_167 := f1_167; have q_f4_167 := f4_167; have q_f5_167 := f5_167; have g_c1_147 := i_rg c1_147; have g_c1_167 := i_rg c1_167; have g_c1_192 := i_rg c1_192; omega))) (gP_of hD hk_192 (fun q90 e90 => by cases e90; exact (by have q_f2_192 := f2_192; have q_f3_192 := f3_192; have q_kq_193 := kq_193; have q_wb_194 := wb_194; have q_f2_167 := f2_167; have q_f3_167 := f3_167; have q_kq_168 := kq_168; have q_wb_169 := wb_169; have q_f1_192 := f1_192; have q_f4_192 := f4_192; have q_f5_192 := f5_192; have q_f2_147 := f2_147; have q_f3_147 := f3_147; have q_wb_148 := wb_148; have q_f1_167 := f1_167; have q_f4_167 := f4_167; have q_f5_167 := f5_167; have g_c1_147 := i_rg c1_147; have g_c1_167 := i_rg c1_167; have g_c1_192 := i_rg c1_192; omega)))) (cwV 1 hts (gd_V kw_140 kw_13 kw_14 kw_3 kw_12) rfl rfl rfl (by decide +kernel) ⟨Nat.le_of_ble_eq_true rfl, Nat.le_of_ble_eq_true rfl⟩) ⟨gblindH, va_recv hK hP (ci := 0) (q0 := k_147) rfl hk_192, fun U hU hW9 => gmkH hU hW9 hP hK hD hex hE hS hFc⟩ rfl rfl hl.1 rfl (lv_room (Nat.le_of_ble_eq_true rfl)) dX11_counterEntry_63 ⟨(show 0 + dc_5 + dc_153 + dc_175 + (PC ws_172 + (0)) ≤ PC ws + (0) from (by have e0 : (0 : Int32).toInt = 0 := (by decide); omega)), (show 0 + ds_6 + ds_154 + ds_176 + (PS ws_172 + (0)) ≤ PS ws + (0) from (by have e0 : (0 : Int32).toInt = 0 := (by decide); omega))⟩) hS (fun q _ h => hFc q h) hFc (fun  ws_197 t9 H1 locs ht9 hvm9 hw9 hB9 hz9 hk9 hS => ?_)
      obtain ⟨E_198, Fr_199, hG, hP1, hD1, dc_200, ds_201, hLd, hdc_200, hds_201⟩ := hB9
      rw [ht9] at hLd
      refine W_tight (hL0.tr hLd).1 (hL0.tr hLd).2.1 ?_
      clear hL0 hLd
      have hP : va_P (gD g) cl0 ws_197 H1 := by rw [← ht9]; exact hP1
      have hD : va_D A ws_197 := hD1.weaken (fun _ _ _ h => hFc _ h)
      have kf_202 := hw9
      clear hP1 hD1 hz9 hk9 hvm9 ht9 hw9
      generalize H1 = H at hP hS ⊢
      have aa_203 := a_r3_189
      have aa_204 := a_r4_189
      have aa_205 := a_r10_189
      have aa_206 := a_r11_189
      have aa_207 := a_r12_189
      have aa_208 := a_r13_189
      have aa_209 := a_r16_189
      have aa_210 := a_r17_189
      have aa_211 := a_r0_192
      have o_h0 := E_198.1 _ _ o_h0
      have tq_212 : wcP ws_197 h0 0 (wb) ((((1) + 2) + 1) + 1) := wcP_2 hDW hG Fr_199 (by decide) (by decide) (by decide) (by decide) hkW rfl (fun k9 ci9 fs9 h9 c9 e9 => by have w9 := kf_202 _ _ _ h9 c9 e9; omega) tq_187
      refine lv_aload_n hx hb dX11_counterEntry_66 rfl (lv_at hl 0 rfl) ?_
      have tq_213 : enP g ws_197 h0 := enP_mo ((gF.tr Fr_4 (gF.tr (gF.mo (F' := [(0, 0), (0, 1)]) (C' := [(0, 0), (6, 0)]) (S' := none) Fr_152 (fun _ h => h) (fun _ h => h) (Or.inl rfl)) (gF.tr (gF.mo (F' := [(0, 0), (0, 1)]) (C' := [(0, 0), (6, 0)]) (S' := none) Fr_174 (fun _ h => h) (fun _ h => h) (Or.inl rfl)) (gF.mo (F' := [(0, 0), (0, 1)]) (C' := [(0, 0), (6, 0)]) (S' := none) Fr_199 (fun _ h => h) (fun _ h => h) (Or.inl rfl)))))) (by decide) (by decide) (by decide) tk0
      have hFc := gfree hD hS hA
      refine W_led (fun hL0 => ?_)
      obtain ⟨k_214, fs_214, hk_214⟩ := gC_of o_h0
      refine va_calli (va_runV (As := []) (rest := []) ⟨hx, hb, hml, hown, hts⟩ (m_X11_entryOfWanted l g H ws_197 h0 (wb) ((((1) + 2) + 1) + 1) hG o_h0 tq_213 tq_212 (by omega) (by have q_pwc := pwc; omega)) (cwV 0 hts (gd_V kw_141 kw_143 kw_144 kw_83 kw_142) rfl rfl rfl (by decide +kernel) ⟨Nat.le_of_ble_eq_true rfl, Nat.le_of_ble_eq_true rfl⟩) ⟨gblindH, va_recv hK hP (ci := 10) (q0 := k_214) rfl hk_214, fun U hU hW9 => gmkH hU hW9 hP hK hD hex hE hS hFc⟩ rfl rfl hl.1 rfl (lv_room (Nat.le_of_ble_eq_true rfl)) dX11_counterEntry_67 ⟨(show 0 + dc_5 + dc_153 + dc_175 + dc_200 + (PC ws_197 + (0)) ≤ PC ws + (0) from (by have e0 : (0 : Int32).toInt = 0 := (by decide); omega)), (show 0 + ds_6 + ds_154 + ds_176 + ds_201 + (PS ws_197 + (0)) ≤ PS ws + (0) from (by have e0 : (0 : Int32).toInt = 0 := (by decide); omega))⟩) hS (fun q _ h => hFc q h) hFc (fun r_215 ws_216 t9 H1 locs ht9 hvm9 hw9 hB9 hz9 hk9 hS => ?_)
      obtain ⟨E_217, Fr_218, hG, hP1, hD1, dc_219, ds_220, hLd, hdc_219, hds_220⟩ := hB9
      rw [ht9] at hLd
      refine W_tight (hL0.tr hLd).1 (hL0.tr hLd).2.1 ?_
      clear hL0 hLd
      have hP : va_P (gD g) cl0 ws_216 H1 := by rw [← ht9]; exact hP1
      have hD : va_D A ws_216 := hD1.weaken (fun _ _ _ h => hFc _ h)
      obtain ⟨hw9, xp_221, xp_222⟩ := hw9
      clear hP1 hD1 hz9 hk9 hvm9 ht9 hw9
      generalize H1 = H at hP hS ⊢
      have o_h0 := E_217.1 _ _ o_h0
      refine W_led (fun hLd => ?_)
      have hcl : 0 + dc_5 + dc_153 + dc_175 + dc_200 + dc_219 + PC ws_216 ≤ PC ws + (0) := (by omega)
      have hsl : 0 + ds_6 + ds_154 + ds_176 + ds_201 + ds_220 + PS ws_216 ≤ PS ws + (0) := (by omega)
      refine W.widen (k := PC ws + (0)) (n := PS ws + (0)) (by omega) (by omega) ?_
      have tq_223 : wcP ws_216 h0 0 (wb) (6) := wcP_le (by have e0 : (0 : Int32).toInt = 0 := (by decide); have e09 : (0 : Int32).toInt = 0 := rfl; omega) (by have q_pwc := pwc; have e09 : (0 : Int32).toInt = 0 := rfl; omega) (by have e6 : (6 : Int32).toInt = 6 := (by decide); have e09 : (0 : Int32).toInt = 0 := rfl; omega) xp_222
      exact W.iret (v := r_215) hx hb hr (fun t9 ht9 hW9 => ⟨⟨_, ws_216, rfl, ⟨trivial, xp_221, tq_223⟩, ⟨(E_3.tr (E_151.tr (E_173.tr (E_198.tr E_217)))), (gF.tr (gF.mo (F' := [(0, 0), (0, 1), (10, 5), (10, 6)]) (C' := [(0, 0), (6, 0), (10, 3), (10, 4)]) (S' := none) Fr_4 (by decide) (by decide) (Or.inr rfl)) (gF.tr (gF.mo (F' := [(0, 0), (0, 1), (10, 5), (10, 6)]) (C' := [(0, 0), (6, 0), (10, 3), (10, 4)]) (S' := none) Fr_152 (by decide) (by decide) (Or.inl rfl)) (gF.tr (gF.mo (F' := [(0, 0), (0, 1), (10, 5), (10, 6)]) (C' := [(0, 0), (6, 0), (10, 3), (10, 4)]) (S' := none) Fr_174 (by decide) (by decide) (Or.inl rfl)) (gF.tr (gF.mo (F' := [(0, 0), (0, 1), (10, 5), (10, 6)]) (C' := [(0, 0), (6, 0), (10, 3), (10, 4)]) (S' := none) Fr_199 (by decide) (by decide) (Or.inl rfl)) Fr_218)))), hG, by rw [ht9]; exact hP, hD, _, _, by rw [ht9]; exact hLd, hcl, hsl⟩⟩, hS.F ht9⟩) hS.2.2 dX11_counterEntry_70
    · refine lv_aload_n hx hb dX11_counterEntry_38 rfl (lv_at hl 0 rfl) ?_
      obtain ⟨fs9, hk_224, hq_224⟩ := ((gF.a (F' := [(0, 0), (0, 1)]) Fr_174 (fun _ h => h))) _ _ _ hk_166
      obtain ⟨r0_224, r1_224, r2_224, r3_224, n3_224, r4_224, n4_224, c5_224, c6_224, v7_224, c8_224, c9_224, r10_224, n10_224, r11_224, n11_224, r12_224, n12_224, r13_224, n13_224, r14_224, v15_224, r16_224, n16_224, r17_224, n17_224, rfl, o_r0_224, o_r1_224, o_r2_224, a_r3_224, f4_224, a_r4_224, f6_224, hz_c6_224, o_v7_224, a_r10_224, f10_224, a_r11_224, f12_224, a_r12_224, f14_224, a_r13_224, f16_224, o_r14_224, o_v15_224, a_r16_224, f20_224, a_r17_224, f22_224, f23_224, f24_224, f25_224, f26_224, f27_224, f28_224, -⟩ := (hG.1 _ _ _ _ hk_224).hX11 rfl
      obtain rfl := fe_r (hq_224 2 (by decide))
      have o_r2_8 := o_r2_224
      obtain rfl := fe_q (hq_224 7 (by decide))
      have o_v7_8 := o_v7_224
      obtain rfl := fe_q (hq_224 15 (by decide))
      have o_v15_8 := o_v15_224
      refine va_get (D := gD g) (ci := 10) (v := .ref r2_8) (C := RX11) (T := TX11) (N := 18) hx hb hts inX11 hown hK hP k_8 hk_224 rfl 2 (by decide) (hts _ kw_139) (fun _ h9 => h9) rfl dX11_counterEntry_39 ?_
      refine lv_bipush (v := 48) hx hb dX11_counterEntry_42 (by decide) ?_
      refine lv_iload_n hx hb dX11_counterEntry_44 rfl (lv_at hl 1 rfl) ?_
      refine lv_bipush (v := 10) hx hb dX11_counterEntry_45 (by decide) ?_
      refine lv_idiv hx hb dX11_counterEntry_47 (by decide) ?_
      refine lv_topi (fun z_225 ez_225 => ?_)
      refine lv_iadd hx hb dX11_counterEntry_48 ?_
      refine lv_topi (fun z_226 ez_226 => ?_)
      obtain ⟨fs9, hk_227, hq_227⟩ := ((gF.a (F' := [(0, 0), (0, 1)]) Fr_174 (fun _ h => h))) _ _ _ hk_167
      obtain ⟨r0_227, n0_227, c1_227, rfl, a_r0_227, f1_227, f2_227, f3_227, f4_227, f5_227, -⟩ := (hG.1 _ _ _ _ hk_227).hX0 rfl
      have kq_228 := kf_177 _ _ _ hk_227 _ rfl
      have wb_229 : c1_227.toInt ≤ (((1) + 2) + 1) := wcP_u2 hD hk_224 rfl hk_227 rfl tq_187
      have hkW := hk_224
      have hDW := hD
      have hFc := gfree hD hS hA
      have pg_230 := ge_10_17 hD hk_224 rfl a_r17_224
      have pg_231 := ge_0_0 hD hk_227 rfl a_r0_227
      refine W_led (fun hL0 => ?_)
      refine va_callv (va_runV (As := [.int z_226]) (rest := []) ⟨hx, hb, hml, hown, hts⟩ (m_X0_put l g H ws_172 r2_8 (z_226) (c1_227) hG o_r2_8 (gP_of hD hk_227 (fun q90 e90 => by cases e90; exact (by have q_f2_227 := f2_227; have q_f3_227 := f3_227; have q_kq_228 := kq_228; have q_wb_229 := wb_229; have q_f2_167 := f2_167; have q_f3_167 := f3_167; have q_kq_168 := kq_168; have q_wb_169 := wb_169; have q_f1_227 := f1_227; have q_f4_227 := f4_227; have q_f5_227 := f5_227; have q_f2_147 := f2_147; have q_f3_147 := f3_147; have q_wb_148 := wb_148; have q_f1_167 := f1_167; have q_f4_167 := f4_167; have q_f5_167 := f5_167; have g_c1_147 := i_rg c1_147; have g_c1_167 := i_rg c1_167; have g_c1_227 := i_rg c1_227; omega))) (gP_of hD hk_227 (fun q90 e90 => by cases e90; exact (by have q_f2_227 := f2_227; have q_f3_227 := f3_227; have q_kq_228 := kq_228; have q_wb_229 := wb_229; have q_f2_167 := f2_167; have q_f3_167 := f3_167; have q_kq_168 := kq_168; have q_wb_169 := wb_169; have q_f1_227 := f1_227; have q_f4_227 := f4_227; have q_f5_227 := f5_227; have q_f2_147 := f2_147; have q_f3_147 := f3_147; have q_wb_148 := wb_148; have q_f1_167 := f1_167; have q_f4_167 := f4_167; have q_f5_167 := f5_167; have g_c1_147 := i_rg c1_147; have g_c1_167 := i_rg c1_167; have g_c1_227 := i_rg c1_227; omega)))) (cwV 1 hts (gd_V kw_140 kw_13 kw_14 kw_3 kw_12) rfl rfl rfl (by decide +kernel) ⟨Nat.le_of_ble_eq_true rfl, Nat.le_of_ble_eq_true rfl⟩) ⟨gblindH, va_recv hK hP (ci := 0) (q0 := k_147) rfl hk_227, fun U hU hW9 => gmkH hU hW9 hP hK hD hex hE hS hFc⟩ rfl rfl hl.1 rfl (lv_room (Nat.le_of_ble_eq_true rfl)) dX11_counterEntry_49 ⟨(show 0 + dc_5 + dc_153 + dc_175 + (PC ws_172 + (0)) ≤ PC ws + (0) from (by have e0 : (0 : Int32).toInt = 0 := (by decide); omega)), (show 0 + ds_6 + ds_154 + ds_176 + (PS ws_172 + (0)) ≤ PS ws + (0) from (by have e0 : (0 : Int32).toInt = 0 := (by decide); omega))⟩) hS (fun q _ h => hFc q h) hFc (fun  ws_232 t9 H1 locs ht9 hvm9 hw9 hB9 hz9 hk9 hS => ?_)
      obtain ⟨E_233, Fr_234, hG, hP1, hD1, dc_235, ds_236, hLd, hdc_235, hds_236⟩ := hB9
      rw [ht9] at hLd
      refine W_tight (hL0.tr hLd).1 (hL0.tr hLd).2.1 ?_
      clear hL0 hLd
      have hP : va_P (gD g) cl0 ws_232 H1 := by rw [← ht9]; exact hP1
      have hD : va_D A ws_232 := hD1.weaken (fun _ _ _ h => hFc _ h)
      have kf_237 := hw9
      clear hP1 hD1 hz9 hk9 hvm9 ht9 hw9
      generalize H1 = H at hP hS ⊢
      have aa_238 := a_r3_224
      have aa_239 := a_r4_224
      have aa_240 := a_r10_224
      have aa_241 := a_r11_224
      have aa_242 := a_r12_224
      have aa_243 := a_r13_224
      have aa_244 := a_r16_224
      have aa_245 := a_r17_224
      have aa_246 := a_r0_227
      have o_h0 := E_233.1 _ _ o_h0
      have tq_247 : wcP ws_232 h0 0 (wb) ((((1) + 2) + 1) + 1) := wcP_2 hDW hG Fr_234 (by decide) (by decide) (by decide) (by decide) hkW rfl (fun k9 ci9 fs9 h9 c9 e9 => by have w9 := kf_237 _ _ _ h9 c9 e9; omega) tq_187
      refine lv_aload_n hx hb dX11_counterEntry_52 rfl (lv_at hl 0 rfl) ?_
      obtain ⟨fs9, hk_248, hq_248⟩ := ((gF.a (F' := [(0, 0), (0, 1)]) Fr_234 (fun _ h => h))) _ _ _ hk_224
      obtain ⟨r0_248, r1_248, r2_248, r3_248, n3_248, r4_248, n4_248, c5_248, c6_248, v7_248, c8_248, c9_248, r10_248, n10_248, r11_248, n11_248, r12_248, n12_248, r13_248, n13_248, r14_248, v15_248, r16_248, n16_248, r17_248, n17_248, rfl, o_r0_248, o_r1_248, o_r2_248, a_r3_248, f4_248, a_r4_248, f6_248, hz_c6_248, o_v7_248, a_r10_248, f10_248, a_r11_248, f12_248, a_r12_248, f14_248, a_r13_248, f16_248, o_r14_248, o_v15_248, a_r16_248, f20_248, a_r17_248, f22_248, f23_248, f24_248, f25_248, f26_248, f27_248, f28_248, -⟩ := (hG.1 _ _ _ _ hk_248).hX11 rfl
      obtain rfl := fe_r (hq_248 2 (by decide))
      have o_r2_8 := o_r2_248
      obtain rfl := fe_q (hq_248 7 (by decide))
      have o_v7_8 := o_v7_248
      obtain rfl := fe_q (hq_248 15 (by decide))
      have o_v15_8 := o_v15_248
      refine va_get (D := gD g) (ci := 10) (v := .ref r2_8) (C := RX11) (T := TX11) (N := 18) hx hb hts inX11 hown hK hP k_8 hk_248 rfl 2 (by decide) (hts _ kw_139) (fun _ h9 => h9) rfl dX11_counterEntry_53 ?_
      refine lv_bipush (v := 48) hx hb dX11_counterEntry_56 (by decide) ?_
      refine lv_iload_n hx hb dX11_counterEntry_58 rfl (lv_at hl 1 rfl) ?_
      refine lv_bipush (v := 10) hx hb dX11_counterEntry_59 (by decide) ?_
      refine lv_irem hx hb dX11_counterEntry_61 (by decide) ?_
      refine lv_topi (fun z_249 ez_249 => ?_)
      refine lv_iadd hx hb dX11_counterEntry_62 ?_
      refine lv_topi (fun z_250 ez_250 => ?_)
      obtain ⟨fs9, hk_251, hq_251⟩ := ((gF.a (F' := [(0, 0), (0, 1)]) Fr_234 (fun _ h => h))) _ _ _ hk_227
      obtain ⟨r0_251, n0_251, c1_251, rfl, a_r0_251, f1_251, f2_251, f3_251, f4_251, f5_251, -⟩ := (hG.1 _ _ _ _ hk_251).hX0 rfl
      have kq_252 := kf_237 _ _ _ hk_251 _ rfl
      have wb_253 : c1_251.toInt ≤ ((((1) + 2) + 1) + 1) := wcP_u2 hD hk_248 rfl hk_251 rfl tq_247
      have hkW := hk_248
      have hDW := hD
      have hFc := gfree hD hS hA
      have pg_254 := ge_10_17 hD hk_248 rfl a_r17_248
      have pg_255 := ge_0_0 hD hk_251 rfl a_r0_251
      refine W_led (fun hL0 => ?_)
      refine va_callv (va_runV (As := [.int z_250]) (rest := []) ⟨hx, hb, hml, hown, hts⟩ (m_X0_put l g H ws_232 r2_8 (z_250) (c1_251) hG o_r2_8 (gP_of hD hk_251 (fun q90 e90 => by cases e90; exact (by have q_f2_251 := f2_251; have q_f3_251 := f3_251; have q_kq_252 := kq_252; have q_wb_253 := wb_253; have q_f2_227 := f2_227; have q_f3_227 := f3_227; have q_kq_228 := kq_228; have q_wb_229 := wb_229; have q_f1_251 := f1_251; have q_f4_251 := f4_251; have q_f5_251 := f5_251; have q_f2_167 := f2_167; have q_f3_167 := f3_167; have q_kq_168 := kq_168; have q_wb_169 := wb_169; have q_f1_227 := f1_227; have q_f4_227 := f4_227; have q_f5_227 := f5_227; have g_c1_147 := i_rg c1_147; have g_c1_167 := i_rg c1_167; have g_c1_227 := i_rg c1_227; have g_c1_251 := i_rg c1_251; omega))) (gP_of hD hk_251 (fun q90 e90 => by cases e90; exact (by have q_f2_251 := f2_251; have q_f3_251 := f3_251; have q_kq_252 := kq_252; have q_wb_253 := wb_253; have q_f2_227 := f2_227; have q_f3_227 := f3_227; have q_kq_228 := kq_228; have q_wb_229 := wb_229; have q_f1_251 := f1_251; have q_f4_251 := f4_251; have q_f5_251 := f5_251; have q_f2_167 := f2_167; have q_f3_167 := f3_167; have q_kq_168 := kq_168; have q_wb_169 := wb_169; have q_f1_227 := f1_227; have q_f4_227 := f4_227; have q_f5_227 := f5_227; have g_c1_147 := i_rg c1_147; have g_c1_167 := i_rg c1_167; have g_c1_227 := i_rg c1_227; have g_c1_251 := i_rg c1_251; omega)))) (cwV 1 hts (gd_V kw_140 kw_13 kw_14 kw_3 kw_12) rfl rfl rfl (by decide +kernel) ⟨Nat.le_of_ble_eq_true rfl, Nat.le_of_ble_eq_true rfl⟩) ⟨gblindH, va_recv hK hP (ci := 0) (q0 := k_147) rfl hk_251, fun U hU hW9 => gmkH hU hW9 hP hK hD hex hE hS hFc⟩ rfl rfl hl.1 rfl (lv_room (Nat.le_of_ble_eq_true rfl)) dX11_counterEntry_63 ⟨(show 0 + dc_5 + dc_153 + dc_175 + dc_235 + (PC ws_232 + (0)) ≤ PC ws + (0) from (by have e0 : (0 : Int32).toInt = 0 := (by decide); omega)), (show 0 + ds_6 + ds_154 + ds_176 + ds_236 + (PS ws_232 + (0)) ≤ PS ws + (0) from (by have e0 : (0 : Int32).toInt = 0 := (by decide); omega))⟩) hS (fun q _ h => hFc q h) hFc (fun  ws_256 t9 H1 locs ht9 hvm9 hw9 hB9 hz9 hk9 hS => ?_)
      obtain ⟨E_257, Fr_258, hG, hP1, hD1, dc_259, ds_260, hLd, hdc_259, hds_260⟩ := hB9
      rw [ht9] at hLd
      refine W_tight (hL0.tr hLd).1 (hL0.tr hLd).2.1 ?_
      clear hL0 hLd
      have hP : va_P (gD g) cl0 ws_256 H1 := by rw [← ht9]; exact hP1
      have hD : va_D A ws_256 := hD1.weaken (fun _ _ _ h => hFc _ h)
      have kf_261 := hw9
      clear hP1 hD1 hz9 hk9 hvm9 ht9 hw9
      generalize H1 = H at hP hS ⊢
      have aa_262 := a_r3_248
      have aa_263 := a_r4_248
      have aa_264 := a_r10_248
      have aa_265 := a_r11_248
      have aa_266 := a_r12_248
      have aa_267 := a_r13_248
      have aa_268 := a_r16_248
      have aa_269 := a_r17_248
      have aa_270 := a_r0_251
      have o_h0 := E_257.1 _ _ o_h0
      have tq_271 : wcP ws_256 h0 0 (wb) (((((1) + 2) + 1) + 1) + 1) := wcP_2 hDW hG Fr_258 (by decide) (by decide) (by decide) (by decide) hkW rfl (fun k9 ci9 fs9 h9 c9 e9 => by have w9 := kf_261 _ _ _ h9 c9 e9; omega) tq_247
      refine lv_aload_n hx hb dX11_counterEntry_66 rfl (lv_at hl 0 rfl) ?_
      have tq_272 : enP g ws_256 h0 := enP_mo ((gF.tr Fr_4 (gF.tr (gF.mo (F' := [(0, 0), (0, 1)]) (C' := [(0, 0), (6, 0)]) (S' := none) Fr_152 (fun _ h => h) (fun _ h => h) (Or.inl rfl)) (gF.tr (gF.mo (F' := [(0, 0), (0, 1)]) (C' := [(0, 0), (6, 0)]) (S' := none) Fr_174 (fun _ h => h) (fun _ h => h) (Or.inl rfl)) (gF.tr (gF.mo (F' := [(0, 0), (0, 1)]) (C' := [(0, 0), (6, 0)]) (S' := none) Fr_234 (fun _ h => h) (fun _ h => h) (Or.inl rfl)) (gF.mo (F' := [(0, 0), (0, 1)]) (C' := [(0, 0), (6, 0)]) (S' := none) Fr_258 (fun _ h => h) (fun _ h => h) (Or.inl rfl))))))) (by decide) (by decide) (by decide) tk0
      have hFc := gfree hD hS hA
      refine W_led (fun hL0 => ?_)
      obtain ⟨k_273, fs_273, hk_273⟩ := gC_of o_h0
      refine va_calli (va_runV (As := []) (rest := []) ⟨hx, hb, hml, hown, hts⟩ (m_X11_entryOfWanted l g H ws_256 h0 (wb) (((((1) + 2) + 1) + 1) + 1) hG o_h0 tq_272 tq_271 (by omega) (by have q_pwc := pwc; omega)) (cwV 0 hts (gd_V kw_141 kw_143 kw_144 kw_83 kw_142) rfl rfl rfl (by decide +kernel) ⟨Nat.le_of_ble_eq_true rfl, Nat.le_of_ble_eq_true rfl⟩) ⟨gblindH, va_recv hK hP (ci := 10) (q0 := k_273) rfl hk_273, fun U hU hW9 => gmkH hU hW9 hP hK hD hex hE hS hFc⟩ rfl rfl hl.1 rfl (lv_room (Nat.le_of_ble_eq_true rfl)) dX11_counterEntry_67 ⟨(show 0 + dc_5 + dc_153 + dc_175 + dc_235 + dc_259 + (PC ws_256 + (0)) ≤ PC ws + (0) from (by have e0 : (0 : Int32).toInt = 0 := (by decide); omega)), (show 0 + ds_6 + ds_154 + ds_176 + ds_236 + ds_260 + (PS ws_256 + (0)) ≤ PS ws + (0) from (by have e0 : (0 : Int32).toInt = 0 := (by decide); omega))⟩) hS (fun q _ h => hFc q h) hFc (fun r_274 ws_275 t9 H1 locs ht9 hvm9 hw9 hB9 hz9 hk9 hS => ?_)
      obtain ⟨E_276, Fr_277, hG, hP1, hD1, dc_278, ds_279, hLd, hdc_278, hds_279⟩ := hB9
      rw [ht9] at hLd
      refine W_tight (hL0.tr hLd).1 (hL0.tr hLd).2.1 ?_
      clear hL0 hLd
      have hP : va_P (gD g) cl0 ws_275 H1 := by rw [← ht9]; exact hP1
      have hD : va_D A ws_275 := hD1.weaken (fun _ _ _ h => hFc _ h)
      obtain ⟨hw9, xp_280, xp_281⟩ := hw9
      clear hP1 hD1 hz9 hk9 hvm9 ht9 hw9
      generalize H1 = H at hP hS ⊢
      have o_h0 := E_276.1 _ _ o_h0
      refine W_led (fun hLd => ?_)
      have hcl : 0 + dc_5 + dc_153 + dc_175 + dc_235 + dc_259 + dc_278 + PC ws_275 ≤ PC ws + (0) := (by omega)
      have hsl : 0 + ds_6 + ds_154 + ds_176 + ds_236 + ds_260 + ds_279 + PS ws_275 ≤ PS ws + (0) := (by omega)
      refine W.widen (k := PC ws + (0)) (n := PS ws + (0)) (by omega) (by omega) ?_
      have tq_282 : wcP ws_275 h0 0 (wb) (6) := wcP_le (by have e0 : (0 : Int32).toInt = 0 := (by decide); have e09 : (0 : Int32).toInt = 0 := rfl; omega) (by have q_pwc := pwc; have e09 : (0 : Int32).toInt = 0 := rfl; omega) (by have e6 : (6 : Int32).toInt = 6 := (by decide); have e09 : (0 : Int32).toInt = 0 := rfl; omega) xp_281
      exact W.iret (v := r_274) hx hb hr (fun t9 ht9 hW9 => ⟨⟨_, ws_275, rfl, ⟨trivial, xp_280, tq_282⟩, ⟨(E_3.tr (E_151.tr (E_173.tr (E_233.tr (E_257.tr E_276))))), (gF.tr (gF.mo (F' := [(0, 0), (0, 1), (10, 5), (10, 6)]) (C' := [(0, 0), (6, 0), (10, 3), (10, 4)]) (S' := none) Fr_4 (by decide) (by decide) (Or.inr rfl)) (gF.tr (gF.mo (F' := [(0, 0), (0, 1), (10, 5), (10, 6)]) (C' := [(0, 0), (6, 0), (10, 3), (10, 4)]) (S' := none) Fr_152 (by decide) (by decide) (Or.inl rfl)) (gF.tr (gF.mo (F' := [(0, 0), (0, 1), (10, 5), (10, 6)]) (C' := [(0, 0), (6, 0), (10, 3), (10, 4)]) (S' := none) Fr_174 (by decide) (by decide) (Or.inl rfl)) (gF.tr (gF.mo (F' := [(0, 0), (0, 1), (10, 5), (10, 6)]) (C' := [(0, 0), (6, 0), (10, 3), (10, 4)]) (S' := none) Fr_234 (by decide) (by decide) (Or.inl rfl)) (gF.tr (gF.mo (F' := [(0, 0), (0, 1), (10, 5), (10, 6)]) (C' := [(0, 0), (6, 0), (10, 3), (10, 4)]) (S' := none) Fr_258 (by decide) (by decide) (Or.inl rfl)) Fr_277))))), hG, by rw [ht9]; exact hP, hD, _, _, by rw [ht9]; exact hLd, hcl, hsl⟩⟩, hS.F ht9⟩) hS.2.2 dX11_counterEntry_70
set_option maxHeartbeats 1000000 in
set_option maxRecDepth 100000 in
theorem m_X11_fieldEntryOf (l : Launch) (g : Gm) (H0 : Heap) (ws : va_W) (h0 : Nat) (x1 : Int32) (wb : Int) (wc : Int) (hG : Good g ws) (o_h0 : gC ws h0 10) (tk0 : enP g ws h0) (tk1 : wcP ws h0 0 wb wc) (pwc : 0 ≤ wb ∧ 0 ≤ wc ∧ (wb) ≤ 131072 ∧ (wc + 5) ≤ 131072) : Met l yX11_fieldEntryOf (wt yX11_fieldEntryOf cX11_fieldEntryOf 3 (some .int)) ({ frames := 5, cells := PC ws + (0), slots := PS ws + (0), locals := 129 }) (va_Pc [.ref h0, .int x1] (st_H g H0 ws)) (va_Qi (fun (r : Int32) (u9 : va_W) => (True) ∧ (enP g u9 h0) ∧ (wcP u9 h0 0 (wb) (wc + 5))) (gQ2 g [(0, 0), (0, 1), (10, 5), (10, 6)] [(0, 0), (6, 0), (10, 3), (10, 4), (10, 12)] none (va_A ws H0.size) ws H0 (0) (0)) (va_A ws H0.size)) (PC ws + (0)) (PS ws + (0)) (va_A ws H0.size) := by
  refine Met.ofW (cc := cX11_fieldEntryOf) (maxL := 3) (ret := (some .int)) (by decide) rfl ?_
  intro p e s m args below meth c s₁ B hml hv
  obtain ⟨rfl, hH0, hsz, hP, hK, hD0, hex, hE⟩ := hv
  have hx := B.exec
  have hb := B.bytes
  have hr := B.returns
  have hts0 := atoms_spec (ws := wt yX11_fieldEntryOf cX11_fieldEntryOf 3 (some .int)) B.pre
  have hts : ∀ w ∈ tb, w.before _ s = true := fun w h => hts0 w (List.mem_cons_of_mem _ h)
  have hown : s.vm.findClass RX11 = some m.cls := findClass_of_methodNamed B.named
  subst hH0
  have hD := hD0.self (sz := s.heap.size)
  generalize hAe : va_A ws s.heap.size = A at hD hE ⊢
  have hA : ∀ q : Nat, s.heap.size ≤ q → A q := fun q h => by rw [← hAe]; exact Or.inr h
  have hS : va_S A s.heap s.heap [] := va_S.rf
  have hl := lv_entry ([.ref h0, .int x1]) (n := 3) (Nat.le_of_ble_eq_true rfl)
  rw [lg_entry_eq]
  generalize (lg_sl ([.ref h0, .int x1]) ++ List.replicate (3 - (lg_sl ([.ref h0, .int x1])).length) Slot.unset).toArray = ls at hl ⊢
  have hl : lv_has ls 3 [(0, .ref h0), (1, .int x1)] := hl
  refine lv_iload_n hx hb dX11_fieldEntryOf_0 rfl (lv_at hl 1 rfl) ?_
  have J_13 : ∀ (dc_13_1 : Nat) (ds_13_1 : Nat) (H : Heap) (locs : List Loc) (ls : Array Slot), dc_13_1 + PC ws ≤ PC ws + (0) → ds_13_1 + PS ws ≤ PS ws + (0) → va_P (gD g) cl0 ws H → va_D A ws → va_S A s.heap H locs → lv_has ls 3 [] → W p l e (headSpec (wt yX11_fieldEntryOf cX11_fieldEntryOf 3 (some .int)) ({ frames := 5, cells := PC ws + (0), slots := PS ws + (0), locals := 129 })).room s m ([.ref h0, .int x1] : List Value).toArray below meth c H locs (dc_13_1) (ds_13_1) (MQ below (va_Qi (fun (r : Int32) (u9 : va_W) => (True) ∧ (enP g u9 h0) ∧ (wcP u9 h0 0 (wb) (wc + 5))) (gQ2 g [(0, 0), (0, 1), (10, 5), (10, 6)] [(0, 0), (6, 0), (10, 3), (10, 4), (10, 12)] none A ws s.heap (0) (0)) A) ([.ref h0, .int x1] : List Value).toArray s (PC ws + (0)) (PS ws + (0)) A) (F0 m 13 ls []) := by
    intro dc_13_1 ds_13_1 H locs ls  hc9 hs9 hP hD hS hl
    refine lv_iconst (v := 0) hx hb dX11_fieldEntryOf_13 (by decide) ?_
    refine W_led (fun hLd => ?_)
    have hcl : dc_13_1 + PC ws ≤ PC ws + (0) := (by omega)
    have hsl : ds_13_1 + PS ws ≤ PS ws + (0) := (by omega)
    refine W.widen (k := PC ws + (0)) (n := PS ws + (0)) (by omega) (by omega) ?_
    have tq_3 : wcP ws h0 0 (wb) (wc + 5) := wcP_le (by have e0 : (0 : Int32).toInt = 0 := (by decide); have e09 : (0 : Int32).toInt = 0 := rfl; omega) (by have q_pwc := pwc; have e09 : (0 : Int32).toInt = 0 := rfl; omega) (by have q_pwc := pwc; have e09 : (0 : Int32).toInt = 0 := rfl; omega) tk1
    exact W.iret (v := 0) hx hb hr (fun t9 ht9 hW9 => ⟨⟨_, ws, rfl, ⟨trivial, tk0, tq_3⟩, ⟨gE.rf, gF.rf, hG, by rw [ht9]; exact hP, hD, _, _, by rw [ht9]; exact hLd, hcl, hsl⟩⟩, hS.F ht9⟩) hS.2.2 dX11_fieldEntryOf_14
  refine lv_if_lt (tgt := 13) hx hb dX11_fieldEntryOf_1 (by decide) (fun c_4 => ?_) (fun c_4 => ?_)
  · exact J_13 (0) (0) _ _ ls (by have e0 : (0 : Int32).toInt = 0 := (by decide); omega) (by have e0 : (0 : Int32).toInt = 0 := (by decide); omega) hP hD hS (lv_sub hl [] rfl)
  · refine lv_iload_n hx hb dX11_fieldEntryOf_4 rfl (lv_at hl 1 rfl) ?_
    refine lv_aload_n hx hb dX11_fieldEntryOf_5 rfl (lv_at hl 0 rfl) ?_
    obtain ⟨k_5, fs9, hk_5⟩ := gC_of o_h0
    obtain ⟨r0_5, r1_5, r2_5, r3_5, n3_5, r4_5, n4_5, c5_5, c6_5, v7_5, c8_5, c9_5, r10_5, n10_5, r11_5, n11_5, r12_5, n12_5, r13_5, n13_5, r14_5, v15_5, r16_5, n16_5, r17_5, n17_5, rfl, o_r0_5, o_r1_5, o_r2_5, a_r3_5, f4_5, a_r4_5, f6_5, hz_c6_5, o_v7_5, a_r10_5, f10_5, a_r11_5, f12_5, a_r12_5, f14_5, a_r13_5, f16_5, o_r14_5, o_v15_5, a_r16_5, f20_5, a_r17_5, f22_5, f23_5, f24_5, f25_5, f26_5, f27_5, f28_5, -⟩ := (hG.1 _ _ _ _ hk_5).hX11 rfl
    refine va_get (D := gD g) (ci := 10) (v := .ref r12_5) (C := RX11) (T := TX11) (N := 18) hx hb hts inX11 hown hK hP k_5 hk_5 rfl 12 (by decide) (hts _ kw_116) (fun _ h9 => h9) rfl dX11_fieldEntryOf_6 ?_
    obtain ⟨k_6, f_6, hk_6⟩ := gI_of a_r12_5
    obtain ⟨z_7, ez_7⟩ : ∃ z : Int32, Int32.ofNat n12_5 = z := ⟨_, rfl⟩
    refine va_alen (v := z_7) hx hb hK hP k_6 1 hk_6 rfl ez_7 dX11_fieldEntryOf_9 ?_
    refine lv_icmp_lt (tgt := 15) hx hb dX11_fieldEntryOf_10 (by decide) (fun c_8 => ?_) (fun c_8 => ?_)
    · refine lv_aload_n hx hb dX11_fieldEntryOf_15 rfl (lv_at hl 0 rfl) ?_
      refine va_get (D := gD g) (ci := 10) (v := .ref r12_5) (C := RX11) (T := TX11) (N := 18) hx hb hts inX11 hown hK hP k_5 hk_5 rfl 12 (by decide) (hts _ kw_116) (fun _ h9 => h9) rfl dX11_fieldEntryOf_16 ?_
      refine lv_iload_n hx hb dX11_fieldEntryOf_19 rfl (lv_at hl 1 rfl) ?_
      refine va_iald hx hb hK hP k_6 1 hk_6 rfl (i_in2 (by have e0 : (0 : Int32).toInt = 0 := (by decide); have q_c_4 := i_nlt c_4; have q_f14_5 := f14_5; have q_f27_5 := f27_5; have q_z_7 := i_len ez_7 f14_5; have q_c_8 := i_lt c_8; have g_x1 := i_rg x1; have g_z_7 := i_rg z_7; omega)) dX11_fieldEntryOf_20 ?_
      refine lv_topi (fun z_9 ez_9 => ?_)
      have J_60 : ∀ (dc_60_2 : Nat) (ds_60_2 : Nat) (ws_10 : va_W) (H : Heap) (locs : List Loc) (ls : Array Slot), gE ws ws_10 → gF [(0, 0), (0, 1), (10, 5), (10, 6)] [(0, 0), (6, 0), (10, 3), (10, 4), (10, 12)] none ws ws_10 → Good g ws_10 → dc_60_2 + PC ws_10 ≤ PC ws + (0) → ds_60_2 + PS ws_10 ≤ PS ws + (0) → enP g ws_10 h0 → wcP ws_10 h0 0 (wb) (wc + 5) → va_P (gD g) cl0 ws_10 H → va_D A ws_10 → va_S A s.heap H locs → lv_has ls 3 [(0, .ref h0), (1, .int x1)] → W p l e (headSpec (wt yX11_fieldEntryOf cX11_fieldEntryOf 3 (some .int)) ({ frames := 5, cells := PC ws + (0), slots := PS ws + (0), locals := 129 })).room s m ([.ref h0, .int x1] : List Value).toArray below meth c H locs (dc_60_2) (ds_60_2) (MQ below (va_Qi (fun (r : Int32) (u9 : va_W) => (True) ∧ (enP g u9 h0) ∧ (wcP u9 h0 0 (wb) (wc + 5))) (gQ2 g [(0, 0), (0, 1), (10, 5), (10, 6)] [(0, 0), (6, 0), (10, 3), (10, 4), (10, 12)] none A ws s.heap (0) (0)) A) ([.ref h0, .int x1] : List Value).toArray s (PC ws + (0)) (PS ws + (0)) A) (F0 m 60 ls []) := by
        intro dc_60_2 ds_60_2 ws_10 H locs ls  E_11 Fr_12 hG hc9 hs9 jx_60_0 jx_60_1 hP hD hS hl
        have aa_13 := a_r3_5
        have aa_14 := a_r4_5
        have aa_15 := a_r10_5
        have aa_16 := a_r11_5
        have aa_17 := a_r12_5
        have aa_18 := a_r13_5
        have aa_19 := a_r16_5
        have aa_20 := a_r17_5
        have o_h0 := E_11.1 _ _ o_h0
        refine lv_aload_n hx hb dX11_fieldEntryOf_60 rfl (lv_at hl 0 rfl) ?_
        obtain ⟨fs9, hk_21, hq_21⟩ := ((gF.a (F' := [(0, 0), (0, 1), (10, 5), (10, 6)]) Fr_12 (fun _ h => h))) _ _ _ hk_5
        obtain ⟨r0_21, r1_21, r2_21, r3_21, n3_21, r4_21, n4_21, c5_21, c6_21, v7_21, c8_21, c9_21, r10_21, n10_21, r11_21, n11_21, r12_21, n12_21, r13_21, n13_21, r14_21, v15_21, r16_21, n16_21, r17_21, n17_21, rfl, o_r0_21, o_r1_21, o_r2_21, a_r3_21, f4_21, a_r4_21, f6_21, hz_c6_21, o_v7_21, a_r10_21, f10_21, a_r11_21, f12_21, a_r12_21, f14_21, a_r13_21, f16_21, o_r14_21, o_v15_21, a_r16_21, f20_21, a_r17_21, f22_21, f23_21, f24_21, f25_21, f26_21, f27_21, f28_21, -⟩ := (hG.1 _ _ _ _ hk_21).hX11 rfl
        obtain rfl := fe_q (hq_21 7 (by decide))
        have o_v7_5 := o_v7_21
        obtain rfl := fe_i (hq_21 9 (by decide))
        obtain rfl := fe_r (hq_21 10 (by decide))
        have hn9 := gI_n hD ((E_11).1 _ _ aa_15) a_r10_21
        subst hn9
        have a_r10_5 := a_r10_21
        obtain rfl := fe_r (hq_21 11 (by decide))
        have hn9 := gI_n hD ((E_11).1 _ _ aa_16) a_r11_21
        subst hn9
        have a_r11_5 := a_r11_21
        obtain rfl := fe_r (hq_21 12 (by decide))
        have hn9 := gI_n hD ((E_11).1 _ _ aa_17) a_r12_21
        subst hn9
        have a_r12_5 := a_r12_21
        obtain rfl := fe_q (hq_21 15 (by decide))
        have o_v15_5 := o_v15_21
        refine va_get (D := gD g) (ci := 10) (v := .ref r12_5) (C := RX11) (T := TX11) (N := 18) hx hb hts inX11 hown hK hP k_5 hk_21 rfl 12 (by decide) (hts _ kw_116) (fun _ h9 => h9) rfl dX11_fieldEntryOf_61 ?_
        refine lv_iload_n hx hb dX11_fieldEntryOf_64 rfl (lv_at hl 1 rfl) ?_
        obtain ⟨k_22, f_22, hk_22⟩ := gI_of a_r12_5
        refine va_iald hx hb hK hP k_22 1 hk_22 rfl (i_in2 (by have e0 : (0 : Int32).toInt = 0 := (by decide); have q_c_4 := i_nlt c_4; have q_f14_5 := f14_5; have q_f27_5 := f27_5; have q_z_7 := i_len ez_7 f14_5; have q_c_8 := i_lt c_8; have g_x1 := i_rg x1; have g_z_7 := i_rg z_7; omega)) dX11_fieldEntryOf_65 ?_
        refine lv_topi (fun z_23 ez_23 => ?_)
        refine W_led (fun hLd => ?_)
        have hcl : dc_60_2 + PC ws_10 ≤ PC ws + (0) := (by omega)
        have hsl : ds_60_2 + PS ws_10 ≤ PS ws + (0) := (by omega)
        refine W.widen (k := PC ws + (0)) (n := PS ws + (0)) (by omega) (by omega) ?_
        exact W.iret (v := z_23) hx hb hr (fun t9 ht9 hW9 => ⟨⟨_, ws_10, rfl, ⟨trivial, jx_60_0, jx_60_1⟩, ⟨E_11, Fr_12, hG, by rw [ht9]; exact hP, hD, _, _, by rw [ht9]; exact hLd, hcl, hsl⟩⟩, hS.F ht9⟩) hS.2.2 dX11_fieldEntryOf_66
      refine lv_if_ne (tgt := 60) hx hb dX11_fieldEntryOf_21 (by decide) (fun c_24 => ?_) (fun c_24 => ?_)
      · have tq_25 : wcP ws h0 0 (wb) (wc + 5) := wcP_le (by have e0 : (0 : Int32).toInt = 0 := (by decide); have e09 : (0 : Int32).toInt = 0 := rfl; omega) (by have q_pwc := pwc; have e09 : (0 : Int32).toInt = 0 := rfl; omega) (by have q_pwc := pwc; have e09 : (0 : Int32).toInt = 0 := rfl; omega) tk1
        exact J_60 (0) (0) ws _ _ ls (gE.rf) (gF.rf) hG (by have e0 : (0 : Int32).toInt = 0 := (by decide); omega) (by have e0 : (0 : Int32).toInt = 0 := (by decide); omega) tk0 tq_25 hP hD hS (lv_sub hl [0, 1] rfl)
      · refine lv_aload_n hx hb dX11_fieldEntryOf_24 rfl (lv_at hl 0 rfl) ?_
        refine lv_bipush (v := 12) hx hb dX11_fieldEntryOf_25 (by decide) ?_
        refine lv_aload_n hx hb dX11_fieldEntryOf_27 rfl (lv_at hl 0 rfl) ?_
        refine va_get (D := gD g) (ci := 10) (v := .ref r10_5) (C := RX11) (T := TX11) (N := 18) hx hb hts inX11 hown hK hP k_5 hk_5 rfl 10 (by decide) (hts _ kw_126) (fun _ h9 => h9) rfl dX11_fieldEntryOf_28 ?_
        refine lv_iload_n hx hb dX11_fieldEntryOf_31 rfl (lv_at hl 1 rfl) ?_
        obtain ⟨k_26, f_26, hk_26⟩ := gI_of a_r10_5
        refine va_iald hx hb hK hP k_26 1 hk_26 rfl (i_in2 (by have e0 : (0 : Int32).toInt = 0 := (by decide); have q_c_4 := i_nlt c_4; have q_f10_5 := f10_5; have q_f25_5 := f25_5; have q_c_8 := i_lt c_8; have q_z_7 := i_len ez_7 f14_5; have q_f14_5 := f14_5; have q_f27_5 := f27_5; have g_x1 := i_rg x1; have g_z_7 := i_rg z_7; omega)) dX11_fieldEntryOf_32 ?_
        refine lv_topi (fun z_27 ez_27 => ?_)
        refine lv_aload_n hx hb dX11_fieldEntryOf_33 rfl (lv_at hl 0 rfl) ?_
        refine va_get (D := gD g) (ci := 10) (v := .ref r11_5) (C := RX11) (T := TX11) (N := 18) hx hb hts inX11 hown hK hP k_5 hk_5 rfl 11 (by decide) (hts _ kw_128) (fun _ h9 => h9) rfl dX11_fieldEntryOf_34 ?_
        refine lv_iload_n hx hb dX11_fieldEntryOf_37 rfl (lv_at hl 1 rfl) ?_
        obtain ⟨k_28, f_28, hk_28⟩ := gI_of a_r11_5
        refine va_iald hx hb hK hP k_28 1 hk_28 rfl (i_in2 (by have e0 : (0 : Int32).toInt = 0 := (by decide); have q_c_4 := i_nlt c_4; have q_f12_5 := f12_5; have q_f26_5 := f26_5; have q_c_8 := i_lt c_8; have q_z_7 := i_len ez_7 f14_5; have q_f14_5 := f14_5; have q_f27_5 := f27_5; have g_x1 := i_rg x1; have g_z_7 := i_rg z_7; omega)) dX11_fieldEntryOf_38 ?_
        refine lv_topi (fun z_29 ez_29 => ?_)
        have hFc := gfree hD hS hA
        have pg_30 := ge_10_17 hD hk_5 rfl a_r17_5
        refine W_led (fun hL0 => ?_)
        refine va_calli (va_runV (As := [.int 12, .int z_27, .int z_29]) (rest := []) ⟨hx, hb, hml, hown, hts⟩ (m_X11_pointersEntry l g s.heap ws h0 (12) (z_27) (z_29) wb wc hG o_h0 tk0 tk1 (by have q_pwc := pwc; omega)) (cwV 3 hts (gd_V kw_153 kw_234 kw_235 kw_83 kw_233) rfl rfl rfl (by decide +kernel) ⟨Nat.le_of_ble_eq_true rfl, Nat.le_of_ble_eq_true rfl⟩) ⟨gblindH, va_recv hK hP (ci := 10) (q0 := k_5) rfl hk_5, fun U hU hW9 => gmkH hU hW9 hP hK hD hex hE hS hFc⟩ rfl rfl hl.1 rfl (lv_room (Nat.le_of_ble_eq_true rfl)) dX11_fieldEntryOf_39 ⟨(show 0 + (PC ws + (0)) ≤ PC ws + (0) from (by have e0 : (0 : Int32).toInt = 0 := (by decide); omega)), (show 0 + (PS ws + (0)) ≤ PS ws + (0) from (by have e0 : (0 : Int32).toInt = 0 := (by decide); omega))⟩) hS (fun q _ h => hFc q h) hFc (fun r_31 ws_32 t9 H1 locs ht9 hvm9 hw9 hB9 hz9 hk9 hS => ?_)
        obtain ⟨E_33, Fr_34, hG, hP1, hD1, dc_35, ds_36, hLd, hdc_35, hds_36⟩ := hB9
        rw [ht9] at hLd
        refine W_tight (hL0.tr hLd).1 (hL0.tr hLd).2.1 ?_
        clear hL0 hLd
        have hP : va_P (gD g) cl0 ws_32 H1 := by rw [← ht9]; exact hP1
        have hD : va_D A ws_32 := hD1.weaken (fun _ _ _ h => hFc _ h)
        obtain ⟨hw9, xp_37, xp_38⟩ := hw9
        clear hP1 hD1 hz9 hk9 hvm9 ht9 hw9
        generalize H1 = H at hP hS ⊢
        have aa_39 := a_r3_5
        have aa_40 := a_r4_5
        have aa_41 := a_r10_5
        have aa_42 := a_r11_5
        have aa_43 := a_r12_5
        have aa_44 := a_r13_5
        have aa_45 := a_r16_5
        have aa_46 := a_r17_5
        have o_h0 := E_33.1 _ _ o_h0
        refine lv_istore_n (lv' := [(2, .int r_31), (0, .ref h0), (1, .int x1)]) hx hb dX11_fieldEntryOf_42 rfl hl (by decide) rfl (fun ls hl => ?_)
        refine lv_aload_n hx hb dX11_fieldEntryOf_43 rfl (lv_at hl 1 rfl) ?_
        obtain ⟨fs9, hk_47, hq_47⟩ := ((gF.a (F' := [(0, 0), (0, 1), (10, 5), (10, 6)]) Fr_34 (fun _ h => h))) _ _ _ hk_5
        obtain ⟨r0_47, r1_47, r2_47, r3_47, n3_47, r4_47, n4_47, c5_47, c6_47, v7_47, c8_47, c9_47, r10_47, n10_47, r11_47, n11_47, r12_47, n12_47, r13_47, n13_47, r14_47, v15_47, r16_47, n16_47, r17_47, n17_47, rfl, o_r0_47, o_r1_47, o_r2_47, a_r3_47, f4_47, a_r4_47, f6_47, hz_c6_47, o_v7_47, a_r10_47, f10_47, a_r11_47, f12_47, a_r12_47, f14_47, a_r13_47, f16_47, o_r14_47, o_v15_47, a_r16_47, f20_47, a_r17_47, f22_47, f23_47, f24_47, f25_47, f26_47, f27_47, f28_47, -⟩ := (hG.1 _ _ _ _ hk_47).hX11 rfl
        obtain rfl := fe_q (hq_47 7 (by decide))
        have o_v7_5 := o_v7_47
        obtain rfl := fe_i (hq_47 9 (by decide))
        obtain rfl := fe_r (hq_47 10 (by decide))
        have hn9 := gI_n hD ((E_33).1 _ _ aa_41) a_r10_47
        subst hn9
        have a_r10_5 := a_r10_47
        obtain rfl := fe_r (hq_47 11 (by decide))
        have hn9 := gI_n hD ((E_33).1 _ _ aa_42) a_r11_47
        subst hn9
        have a_r11_5 := a_r11_47
        obtain rfl := fe_r (hq_47 12 (by decide))
        have hn9 := gI_n hD ((E_33).1 _ _ aa_43) a_r12_47
        subst hn9
        have a_r12_5 := a_r12_47
        obtain rfl := fe_q (hq_47 15 (by decide))
        have o_v15_5 := o_v15_47
        refine va_get (D := gD g) (ci := 10) (v := .ref r12_5) (C := RX11) (T := TX11) (N := 18) hx hb hts inX11 hown hK hP k_5 hk_47 rfl 12 (by decide) (hts _ kw_116) (fun _ h9 => h9) rfl dX11_fieldEntryOf_44 ?_
        refine lv_iload_n hx hb dX11_fieldEntryOf_47 rfl (lv_at hl 2 rfl) ?_
        refine lv_aload_n hx hb dX11_fieldEntryOf_48 rfl (lv_at hl 1 rfl) ?_
        refine lv_bipush (v := 9) hx hb dX11_fieldEntryOf_49 (by decide) ?_
        refine lv_aload_n hx hb dX11_fieldEntryOf_51 rfl (lv_at hl 1 rfl) ?_
        refine va_get (D := gD g) (ci := 10) (v := .int c9_5) (C := RX11) (T := TX11) (N := 18) hx hb hts inX11 hown hK hP k_5 hk_47 rfl 9 (by decide) (hts _ kw_122) (fun _ h9 => h9) rfl dX11_fieldEntryOf_52 ?_
        refine lv_iload_n hx hb dX11_fieldEntryOf_55 rfl (lv_at hl 0 rfl) ?_
        have hFc := gfree hD hS hA
        have pg_48 := ge_10_17 hD hk_47 rfl a_r17_47
        refine W_led (fun hL0 => ?_)
        refine va_calli (va_runV (As := [.int 9, .int c9_5, .int r_31]) (rest := [.int x1, .ref r12_5]) ⟨hx, hb, hml, hown, hts⟩ (m_X11_pointersEntry l g H ws_32 h0 (9) (c9_5) (r_31) (wb) (5) hG o_h0 xp_37 xp_38 (by have e5 : (5 : Int32).toInt = 5 := (by decide); have q_pwc := pwc; omega)) (cwV 3 hts (gd_V kw_153 kw_234 kw_235 kw_83 kw_233) rfl rfl rfl (by decide +kernel) ⟨Nat.le_of_ble_eq_true rfl, Nat.le_of_ble_eq_true rfl⟩) ⟨gblindH, va_recv hK hP (ci := 10) (q0 := k_5) rfl hk_47, fun U hU hW9 => gmkH hU hW9 hP hK hD hex hE hS hFc⟩ rfl rfl hl.1 rfl (lv_room (Nat.le_of_ble_eq_true rfl)) dX11_fieldEntryOf_56 ⟨(show 0 + dc_35 + (PC ws_32 + (0)) ≤ PC ws + (0) from (by have e0 : (0 : Int32).toInt = 0 := (by decide); omega)), (show 0 + ds_36 + (PS ws_32 + (0)) ≤ PS ws + (0) from (by have e0 : (0 : Int32).toInt = 0 := (by decide); omega))⟩) hS (fun q _ h => hFc q h) hFc (fun r_49 ws_50 t9 H1 locs ht9 hvm9 hw9 hB9 hz9 hk9 hS => ?_)
        obtain ⟨E_51, Fr_52, hG, hP1, hD1, dc_53, ds_54, hLd, hdc_53, hds_54⟩ := hB9
        rw [ht9] at hLd
        refine W_tight (hL0.tr hLd).1 (hL0.tr hLd).2.1 ?_
        clear hL0 hLd
        have hP : va_P (gD g) cl0 ws_50 H1 := by rw [← ht9]; exact hP1
        have hD : va_D A ws_50 := hD1.weaken (fun _ _ _ h => hFc _ h)
        obtain ⟨hw9, xp_55, xp_56⟩ := hw9
        clear hP1 hD1 hz9 hk9 hvm9 ht9 hw9
        generalize H1 = H at hP hS ⊢
        have aa_57 := a_r3_47
        have aa_58 := a_r4_47
        have aa_59 := a_r10_5
        have aa_60 := a_r11_5
        have aa_61 := a_r12_5
        have aa_62 := a_r13_47
        have aa_63 := a_r16_47
        have aa_64 := a_r17_47
        have o_h0 := E_51.1 _ _ o_h0
        have a_r12_5 := E_51.1 _ _ a_r12_5
        obtain ⟨k_65, f_65, hk_65⟩ := gI_of a_r12_5
        obtain ⟨fs9, hk_66, hq_66⟩ := ((gF.a (F' := [(0, 0), (0, 1), (10, 5), (10, 6)]) Fr_52 (fun _ h => h))) _ _ _ hk_47
        obtain ⟨r0_66, r1_66, r2_66, r3_66, n3_66, r4_66, n4_66, c5_66, c6_66, v7_66, c8_66, c9_66, r10_66, n10_66, r11_66, n11_66, r12_66, n12_66, r13_66, n13_66, r14_66, v15_66, r16_66, n16_66, r17_66, n17_66, rfl, o_r0_66, o_r1_66, o_r2_66, a_r3_66, f4_66, a_r4_66, f6_66, hz_c6_66, o_v7_66, a_r10_66, f10_66, a_r11_66, f12_66, a_r12_66, f14_66, a_r13_66, f16_66, o_r14_66, o_v15_66, a_r16_66, f20_66, a_r17_66, f22_66, f23_66, f24_66, f25_66, f26_66, f27_66, f28_66, -⟩ := (hG.1 _ _ _ _ hk_66).hX11 rfl
        obtain rfl := fe_q (hq_66 7 (by decide))
        have o_v7_5 := o_v7_66
        obtain rfl := fe_i (hq_66 9 (by decide))
        obtain rfl := fe_r (hq_66 10 (by decide))
        have hn9 := gI_n hD ((E_51).1 _ _ aa_59) a_r10_66
        subst hn9
        have a_r10_5 := a_r10_66
        obtain rfl := fe_r (hq_66 11 (by decide))
        have hn9 := gI_n hD ((E_51).1 _ _ aa_60) a_r11_66
        subst hn9
        have a_r11_5 := a_r11_66
        obtain rfl := fe_r (hq_66 12 (by decide))
        have hn9 := gI_n hD ((E_51).1 _ _ aa_61) a_r12_66
        subst hn9
        have a_r12_5 := a_r12_66
        obtain rfl := fe_q (hq_66 15 (by decide))
        have o_v15_5 := o_v15_66
        have hC9 : hol ws_50 r12_5 [(10, 12)] := (hol_u hG.u hk_66 (j := 12) rfl a_r12_5 (by decide))
        have hS9 : holS ws_50 r12_5 none := holS_n
        refine va_iast hx hb hK hP hD hS k_65 1 hk_65 rfl (i_in2 (by have e0 : (0 : Int32).toInt = 0 := (by decide); have q_c_4 := i_nlt c_4; have q_f14_5 := f14_5; have q_f27_5 := f27_5; have q_z_7 := i_len ez_7 f14_5; have q_c_8 := i_lt c_8; have g_x1 := i_rg x1; have g_z_7 := i_rg z_7; omega)) dX11_fieldEntryOf_59 (fun H locs hP hD hS => ?_)
        obtain ⟨ws_67, e_ws_67⟩ : ∃ z, z = ws_50.set k_65 (r12_5, .inl (g.cI, n12_5, .inl (upd f_65 (x1 : Int32).toNatClampNeg r_49))) := ⟨_, rfl⟩
        have hP : va_P (gD g) cl0 ws_67 H := by rw [e_ws_67]; exact hP
        have hD : va_D A ws_67 := by rw [e_ws_67]; exact hD
        have E_68 : gE ws_50 ws_67 := gE_ari e_ws_67 hk_65
        have hG : Good g ws_67 := Good_arI e_ws_67 hk_65 hG
        have Fr_69 : gF [] [(10, 12)] none ws_50 ws_67 := gF_ar e_ws_67 hk_65 rfl hC9 hS9
        have pp_70 := Fr_69.pp
        have hk_66 := gset_arO e_ws_67 hk_65 hk_66
        have o_h0 := E_68.1 _ _ o_h0
        have a_r12_5 := E_68.1 _ _ a_r12_5
        have o_r0_66 := E_68.1 _ _ o_r0_66
        have o_r1_66 := E_68.1 _ _ o_r1_66
        have o_r2_66 := E_68.1 _ _ o_r2_66
        have a_r3_66 := E_68.1 _ _ a_r3_66
        have a_r4_66 := E_68.1 _ _ a_r4_66
        have a_r13_66 := E_68.1 _ _ a_r13_66
        have o_r14_66 := E_68.1 _ _ o_r14_66
        have a_r16_66 := E_68.1 _ _ a_r16_66
        have a_r17_66 := E_68.1 _ _ a_r17_66
        have o_v7_5 : ∀ b, v7_5 = some b → gC ws_67 b 9 := fun b h => E_68.1 _ _ (o_v7_5 b h)
        have a_r10_5 := E_68.1 _ _ a_r10_5
        have a_r11_5 := E_68.1 _ _ a_r11_5
        have o_v15_5 : ∀ b, v15_5 = some b → gC ws_67 b 7 := fun b h => E_68.1 _ _ (o_v15_5 b h)
        have tq_71 : enP g ws_67 h0 := enP_mo (Fr_69) (by decide) (by decide) (by decide) xp_55
        have tq_72 : wcP ws_67 h0 0 ((wb)) (5) := wcP_mo (Fr_69) (by decide) (by decide) (by decide) (by decide) (by decide) xp_56
        have tq_73 : wcP ws_67 h0 0 (wb) (wc + 5) := wcP_le (by have e0 : (0 : Int32).toInt = 0 := (by decide); have e09 : (0 : Int32).toInt = 0 := rfl; omega) (by have q_pwc := pwc; have e09 : (0 : Int32).toInt = 0 := rfl; omega) (by have e5 : (5 : Int32).toInt = 5 := (by decide); have q_pwc := pwc; have e09 : (0 : Int32).toInt = 0 := rfl; omega) tq_72
        exact J_60 (0 + dc_35 + dc_53) (0 + ds_36 + ds_54) ws_67 H locs ls ((E_33.tr (E_51.tr E_68))) ((gF.tr (gF.mo (F' := [(0, 0), (0, 1), (10, 5), (10, 6)]) (C' := [(0, 0), (6, 0), (10, 3), (10, 4), (10, 12)]) (S' := none) Fr_34 (fun _ h => h) (by decide) (Or.inr rfl)) (gF.tr (gF.mo (F' := [(0, 0), (0, 1), (10, 5), (10, 6)]) (C' := [(0, 0), (6, 0), (10, 3), (10, 4), (10, 12)]) (S' := none) Fr_52 (fun _ h => h) (by decide) (Or.inr rfl)) (gF.mo (F' := [(0, 0), (0, 1), (10, 5), (10, 6)]) (C' := [(0, 0), (6, 0), (10, 3), (10, 4), (10, 12)]) (S' := none) Fr_69 (fun _ h => absurd h List.not_mem_nil) (by decide) (Or.inr rfl))))) hG (by omega) (by omega) tq_71 tq_73 hP hD hS (lv_sub hl [1, 2] rfl)
    · exact J_13 (0) (0) _ _ ls (by have e0 : (0 : Int32).toInt = 0 := (by decide); omega) (by have e0 : (0 : Int32).toInt = 0 := (by decide); omega) hP hD hS (lv_sub hl [] rfl)
