set_option maxHeartbeats 1000000 in
set_option maxRecDepth 100000 in
theorem m_X11_offsetOf (l : Launch) (g : Gm) (sz : Nat) (ws : va_W) (h0 : Nat) (x1 : Int32) (hG : Good g ws) (o_h0 : gC ws h0 10) (nn_h0_15 : gN ws h0 15) (f2_o : ∀ (k k2 b : Nat) (fs gs : List Value), ows ws k h0 10 fs → fs[15]? = some (.ref b) → ows ws k2 b 7 gs → ∀ c : Int32, gs[2]? = some (.int c) → ∀ (rn n : Nat), fs[17]? = some (.ref rn) → gI ws rn g.cI n → c.toInt < n) : Met l yX11_offsetOf (wt yX11_offsetOf cX11_offsetOf 2 (some .int)) ({ frames := 0, cells := 0, slots := 0, locals := 0 }) (va_Pc [.ref h0, .int x1] (st_G g sz ws)) (va_Qi (fun (r : Int32) (u9 : Unit) => True) (gQ0 g (va_A ws sz) ws) (va_A ws sz)) (0) (0) (va_A ws sz) := by
  refine Met.ofW (cc := cX11_offsetOf) (maxL := 2) (ret := (some .int)) (by decide) rfl ?_
  intro p e s m args below meth c s₁ B hml hv
  obtain ⟨rfl, hsz, hP, hK, hD0, hex, hE⟩ := hv
  have hx := B.exec
  have hb := B.bytes
  have hr := B.returns
  have hts0 := atoms_spec (ws := wt yX11_offsetOf cX11_offsetOf 2 (some .int)) B.pre
  have hts : ∀ w ∈ tb, w.before _ s = true := fun w h => hts0 w (List.mem_cons_of_mem _ h)
  have hown : s.vm.findClass RX11 = some m.cls := findClass_of_methodNamed B.named
  subst hsz
  have hD := hD0.self (sz := s.heap.size)
  generalize hAe : va_A ws s.heap.size = A at hD hE ⊢
  have hA : ∀ q : Nat, s.heap.size ≤ q → A q := fun q h => by rw [← hAe]; exact Or.inr h
  have hS : va_S A s.heap s.heap [] := va_S.rf
  have hl := lv_entry ([.ref h0, .int x1]) (n := 2) (Nat.le_of_ble_eq_true rfl)
  rw [lg_entry_eq]
  generalize (lg_sl ([.ref h0, .int x1]) ++ List.replicate (2 - (lg_sl ([.ref h0, .int x1])).length) Slot.unset).toArray = ls at hl ⊢
  have hl : lv_has ls 2 [(0, .ref h0), (1, .int x1)] := hl
  obtain ⟨k_1, fs9, hk_1⟩ := gC_of o_h0
  obtain ⟨r0_1, r1_1, r2_1, r3_1, n3_1, r4_1, n4_1, c5_1, c6_1, v7_1, c8_1, c9_1, r10_1, n10_1, r11_1, n11_1, r12_1, n12_1, r13_1, n13_1, r14_1, v15_1, r16_1, n16_1, r17_1, n17_1, rfl, o_r0_1, o_r1_1, o_r2_1, a_r3_1, f4_1, a_r4_1, f6_1, hz_c6_1, o_v7_1, a_r10_1, f10_1, a_r11_1, f12_1, a_r12_1, f14_1, a_r13_1, f16_1, o_r14_1, o_v15_1, a_r16_1, f20_1, a_r17_1, f22_1, f23_1, f24_1, f25_1, f26_1, f27_1, f28_1, -⟩ := (hG.1 _ _ _ _ hk_1).hX11 rfl
  obtain ⟨b_2, hn9⟩ := nn_h0_15 _ _ _ hk_1
  have hn9 := fe_qr hn9
  subst hn9
  have o_b_2 := o_v15_1 _ rfl
  obtain ⟨k_3, fs9, hk_3⟩ := gC_of o_b_2
  obtain ⟨r0_3, n0_3, r1_3, n1_3, c2_3, r3_3, n3_3, c4_3, r5_3, n5_3, r6_3, n6_3, r7_3, n7_3, r8_3, n8_3, c9_3, c10_3, c11_3, v12_3, v13_3, v14_3, rfl, a_r0_3, f1_3, a_r1_3, f3_3, a_r3_3, f5_3, a_r5_3, f7_3, a_r6_3, f9_3, a_r7_3, f11_3, a_r8_3, f13_3, o_v12_3, o_v13_3, o_v14_3, f17_3, f18_3, f19_3, f20_3, f21_3, f22_3, f23_3, f24_3, f25_3, f26_3, f27_3, f28_3, f29_3, -⟩ := (hG.1 _ _ _ _ hk_3).hX8 rfl
  have fq2_o := f2_o _ _ _ _ _ hk_1 rfl hk_3 _ rfl _ _ rfl a_r17_1
  refine lv_iload_n hx hb dX11_offsetOf_0 rfl (lv_at hl 1 rfl) ?_
  have J_25 : ∀ (t_4 : Int32) (H : Heap) (locs : List Loc) (ls : Array Slot), va_P (gD g) cl0 ws H → va_D A ws → va_S A s.heap H locs → lv_has ls 2 [] → W p l e (headSpec (wt yX11_offsetOf cX11_offsetOf 2 (some .int)) ({ frames := 0, cells := 0, slots := 0, locals := 0 })).room s m ([.ref h0, .int x1] : List Value).toArray below meth c H locs (0) (0) (MQ below (va_Qi (fun (r : Int32) (u9 : Unit) => True) (gQ0 g A ws) A) ([.ref h0, .int x1] : List Value).toArray s (0) (0) A) (F0 m 25 ls [.int t_4]) := by
    intro t_4 H locs ls  hP hD hS hl
    refine W.widen (k := 0) (n := 0) (Nat.le_of_ble_eq_true rfl) (Nat.le_of_ble_eq_true rfl) ?_
    exact W.iret (v := t_4) hx hb hr (fun t9 ht9 hW9 => ⟨⟨_, (), rfl, trivial, ⟨by rw [ht9]; exact hP, hD⟩⟩, hS.F ht9⟩) hS.2.2 dX11_offsetOf_25
  have J_15 : ∀  (H : Heap) (locs : List Loc) (ls : Array Slot), va_P (gD g) cl0 ws H → va_D A ws → va_S A s.heap H locs → lv_has ls 2 [] → W p l e (headSpec (wt yX11_offsetOf cX11_offsetOf 2 (some .int)) ({ frames := 0, cells := 0, slots := 0, locals := 0 })).room s m ([.ref h0, .int x1] : List Value).toArray below meth c H locs (0) (0) (MQ below (va_Qi (fun (r : Int32) (u9 : Unit) => True) (gQ0 g A ws) A) ([.ref h0, .int x1] : List Value).toArray s (0) (0) A) (F0 m 15 ls []) := by
    intro  H locs ls  hP hD hS hl
    refine lv_iconst (v := 0) hx hb dX11_offsetOf_15 (by decide) ?_
    refine lv_goto (tgt := 25) hx hb dX11_offsetOf_16 (by decide) ?_
    exact J_25 (0) H locs ls  hP hD hS (lv_sub hl [] rfl)
  refine lv_if_lt (tgt := 15) hx hb dX11_offsetOf_1 (by decide) (fun c_9 => ?_) (fun c_9 => ?_)
  · exact J_15  _ _ ls  hP hD hS (lv_sub hl [] rfl)
  · refine lv_iload_n hx hb dX11_offsetOf_4 rfl (lv_at hl 1 rfl) ?_
    refine lv_aload_n hx hb dX11_offsetOf_5 rfl (lv_at hl 0 rfl) ?_
    refine va_get (D := gD g) (ci := 10) (v := .ref b_2) (C := RX11) (T := TX11) (N := 18) hx hb hts inX11 hown hK hP k_1 hk_1 rfl 15 (by decide) (hts _ kw_84) (fun _ h9 => h9) rfl dX11_offsetOf_6 ?_
    refine va_get (D := gD g) (ci := 7) (v := .int c2_3) (C := RX8) (T := TX8) (N := 15) hx hb hts inX8 hown hK hP k_3 hk_3 rfl 2 (by decide) (hts _ kw_102) (fun _ h9 => h9) rfl dX11_offsetOf_9 ?_
    refine lv_icmp_le (tgt := 19) hx hb dX11_offsetOf_12 (by decide) (fun c_10 => ?_) (fun c_10 => ?_)
    · refine lv_aload_n hx hb dX11_offsetOf_19 rfl (lv_at hl 0 rfl) ?_
      refine va_get (D := gD g) (ci := 10) (v := .ref r17_1) (C := RX11) (T := TX11) (N := 18) hx hb hts inX11 hown hK hP k_1 hk_1 rfl 17 (by decide) (hts _ kw_169) (fun _ h9 => h9) rfl dX11_offsetOf_20 ?_
      refine lv_iload_n hx hb dX11_offsetOf_23 rfl (lv_at hl 1 rfl) ?_
      obtain ⟨k_11, f_11, hk_11⟩ := gI_of a_r17_1
      refine va_iald hx hb hK hP k_11 1 hk_11 rfl (i_in2 (by have e0 : (0 : Int32).toInt = 0 := (by decide); have q_f22_1 := f22_1; have q_fq2_o := fq2_o; have q_c_9 := i_nlt c_9; have q_c_10 := i_le c_10; have q_f19_3 := f19_3; have q_f20_3 := f20_3; have g_c2_3 := i_rg c2_3; have g_x1 := i_rg x1; omega)) dX11_offsetOf_24 ?_
      refine lv_topi (fun z_12 ez_12 => ?_)
      exact J_25 (z_12) _ _ ls  hP hD hS (lv_sub hl [] rfl)
    · exact J_15  _ _ ls  hP hD hS (lv_sub hl [] rfl)
set_option maxHeartbeats 1000000 in
set_option maxRecDepth 100000 in
theorem m_X11_lengthOf (l : Launch) (g : Gm) (sz : Nat) (ws : va_W) (h0 : Nat) (x1 : Int32) (x2 : Int32) (hG : Good g ws) (o_h0 : gC ws h0 10) (nn_h0_15 : gN ws h0 15) (fp_n : gP ws h0 (fun fs => ∀ (rn n : Nat), fs[16]? = some (.ref rn) → gI ws rn g.cI n → x1.toInt < n)) (p0 : 0 ≤ x1.toInt) : Met l yX11_lengthOf (wt yX11_lengthOf cX11_lengthOf 6 (some .int)) ({ frames := 2, cells := 0, slots := 0, locals := 43 }) (va_Pc [.ref h0, .int x1, .int x2] (st_G g sz ws)) (va_Qi (fun (r : Int32) (u9 : Unit) => True) (gQ0 g (va_A ws sz) ws) (va_A ws sz)) (0) (0) (va_A ws sz) := by
  refine Met.ofW (cc := cX11_lengthOf) (maxL := 6) (ret := (some .int)) (by decide) rfl ?_
  intro p e s m args below meth c s₁ B hml hv
  obtain ⟨rfl, hsz, hP, hK, hD0, hex, hE⟩ := hv
  have hx := B.exec
  have hb := B.bytes
  have hr := B.returns
  have hts0 := atoms_spec (ws := wt yX11_lengthOf cX11_lengthOf 6 (some .int)) B.pre
  have hts : ∀ w ∈ tb, w.before _ s = true := fun w h => hts0 w (List.mem_cons_of_mem _ h)
  have hown : s.vm.findClass RX11 = some m.cls := findClass_of_methodNamed B.named
  subst hsz
  have hD := hD0.self (sz := s.heap.size)
  generalize hAe : va_A ws s.heap.size = A at hD hE ⊢
  have hA : ∀ q : Nat, s.heap.size ≤ q → A q := fun q h => by rw [← hAe]; exact Or.inr h
  have hS : va_S A s.heap s.heap [] := va_S.rf
  have hl := lv_entry ([.ref h0, .int x1, .int x2]) (n := 6) (Nat.le_of_ble_eq_true rfl)
  rw [lg_entry_eq]
  generalize (lg_sl ([.ref h0, .int x1, .int x2]) ++ List.replicate (6 - (lg_sl ([.ref h0, .int x1, .int x2])).length) Slot.unset).toArray = ls at hl ⊢
  have hl : lv_has ls 6 [(0, .ref h0), (1, .int x1), (2, .int x2)] := hl
  obtain ⟨k_1, fs9, hk_1⟩ := gC_of o_h0
  obtain ⟨r0_1, r1_1, r2_1, r3_1, n3_1, r4_1, n4_1, c5_1, c6_1, v7_1, c8_1, c9_1, r10_1, n10_1, r11_1, n11_1, r12_1, n12_1, r13_1, n13_1, r14_1, v15_1, r16_1, n16_1, r17_1, n17_1, rfl, o_r0_1, o_r1_1, o_r2_1, a_r3_1, f4_1, a_r4_1, f6_1, hz_c6_1, o_v7_1, a_r10_1, f10_1, a_r11_1, f12_1, a_r12_1, f14_1, a_r13_1, f16_1, o_r14_1, o_v15_1, a_r16_1, f20_1, a_r17_1, f22_1, f23_1, f24_1, f25_1, f26_1, f27_1, f28_1, -⟩ := (hG.1 _ _ _ _ hk_1).hX11 rfl
  have fq_n := fp_n _ _ _ hk_1 _ _ rfl a_r16_1
  obtain ⟨b_2, hn9⟩ := nn_h0_15 _ _ _ hk_1
  have hn9 := fe_qr hn9
  subst hn9
  have o_b_2 := o_v15_1 _ rfl
  refine lv_aload_n hx hb dX11_lengthOf_0 rfl (lv_at hl 0 rfl) ?_
  refine va_get (D := gD g) (ci := 10) (v := .ref b_2) (C := RX11) (T := TX11) (N := 18) hx hb hts inX11 hown hK hP k_1 hk_1 rfl 15 (by decide) (hts _ kw_84) (fun _ h9 => h9) rfl dX11_lengthOf_1 ?_
  refine lv_iload_n hx hb dX11_lengthOf_4 rfl (lv_at hl 1 rfl) ?_
  have hFc := gfree hD hS hA
  obtain ⟨k_3, fs_3, hk_3⟩ := gC_of o_b_2
  refine va_calli (va_runV (As := [.int x1]) (rest := []) ⟨hx, hb, hml, hown, hts⟩ (m_X8_opAt l g s.heap.size ws b_2 (x1) hG o_b_2) (cwV 1 hts (gd_V kw_189 kw_1513 kw_1514 kw_782 kw_1512) rfl rfl rfl (by decide +kernel) ⟨Nat.le_of_ble_eq_true rfl, Nat.le_of_ble_eq_true rfl⟩) ⟨gblind, va_recv hK hP (ci := 7) (q0 := k_3) rfl hk_3, fun U hU hW9 => gmk hU hW9 hP hK hD hex hE hS hFc⟩ rfl rfl hl.1 rfl (lv_room (Nat.le_of_ble_eq_true rfl)) dX11_lengthOf_5 ⟨Nat.le_of_ble_eq_true rfl, Nat.le_of_ble_eq_true rfl⟩) hS (fun q _ h => hFc q h) hFc (fun r_4 u9 t9 H1 locs ht9 hvm9 hw9 hB9 hz9 hk9 hS => ?_)
  have hP : va_P (gD g) cl0 ws H1 := by rw [← ht9]; exact hB9.1
  clear hB9 hz9 hk9 hvm9 ht9 hw9
  generalize H1 = H at hP hS ⊢
  refine lv_istore_n (lv' := [(3, .int r_4), (0, .ref h0), (1, .int x1), (2, .int x2)]) hx hb dX11_lengthOf_8 rfl hl (by decide) rfl (fun ls hl => ?_)
  refine lv_aload_n hx hb dX11_lengthOf_9 rfl (lv_at hl 1 rfl) ?_
  refine va_get (D := gD g) (ci := 10) (v := .ref b_2) (C := RX11) (T := TX11) (N := 18) hx hb hts inX11 hown hK hP k_1 hk_1 rfl 15 (by decide) (hts _ kw_84) (fun _ h9 => h9) rfl dX11_lengthOf_10 ?_
  refine lv_iload_n hx hb dX11_lengthOf_13 rfl (lv_at hl 2 rfl) ?_
  have hFc := gfree hD hS hA
  obtain ⟨k_5, fs_5, hk_5⟩ := gC_of o_b_2
  refine va_calll (va_runV (As := [.int x1]) (rest := []) ⟨hx, hb, hml, hown, hts⟩ (m_X8_argAt l g H.size ws b_2 (x1) hG o_b_2) (cwV 1 hts (gd_V kw_197 kw_1476 kw_1477 kw_782 kw_1475) rfl rfl rfl (by decide +kernel) ⟨Nat.le_of_ble_eq_true rfl, Nat.le_of_ble_eq_true rfl⟩) ⟨gblind, va_recv hK hP (ci := 7) (q0 := k_5) rfl hk_5, fun U hU hW9 => gmk hU hW9 hP hK hD hex hE hS hFc⟩ rfl rfl hl.1 rfl (lv_room (Nat.le_of_ble_eq_true rfl)) dX11_lengthOf_14 ⟨Nat.le_of_ble_eq_true rfl, Nat.le_of_ble_eq_true rfl⟩) hS (fun q _ h => hFc q h) hFc (fun r_6 u9 t9 H1 locs ht9 hvm9 hw9 hB9 hz9 hk9 hS => ?_)
  have hP : va_P (gD g) cl0 ws H1 := by rw [← ht9]; exact hB9.1
  clear hB9 hz9 hk9 hvm9 ht9 hw9
  generalize H1 = H at hP hS ⊢
  refine lv_lstore (lv' := [(4, .long r_6), (3, .int r_4), (0, .ref h0), (1, .int x1), (2, .int x2)]) hx hb dX11_lengthOf_17 hl (by decide) rfl (fun ls hl => ?_)
  refine lv_iload_n hx hb dX11_lengthOf_19 rfl (lv_at hl 1 rfl) ?_
  have hFc := gfree hD hS hA
  refine va_calli (va_runS (As := [.int r_4]) (rest := []) ⟨hx, hb, hml, hown, hts⟩ (m_X6_isLoad l g H.size ws (r_4) hG ) (va_cwS 1 hts (gd_S kw_198 kw_1227 kw_1207 kw_1226) rfl rfl rfl (by decide +kernel) ⟨Nat.le_of_ble_eq_true rfl, Nat.le_of_ble_eq_true rfl⟩) ⟨gblind, fun U hU hW9 => gmk hU hW9 hP hK hD hex hE hS hFc⟩ rfl rfl hl.1 rfl (lv_room (Nat.le_of_ble_eq_true rfl)) dX11_lengthOf_20 ⟨Nat.le_of_ble_eq_true rfl, Nat.le_of_ble_eq_true rfl⟩) hS (fun q _ h => hFc q h) hFc (fun r_7 u9 t9 H1 locs ht9 hvm9 hw9 hB9 hz9 hk9 hS => ?_)
  have hP : va_P (gD g) cl0 ws H1 := by rw [← ht9]; exact hB9.1
  have hz_r_7 : r_7 = 0 ∨ r_7 = 1 := hw9
  clear hB9 hz9 hk9 hvm9 ht9 hw9
  generalize H1 = H at hP hS ⊢
  have J_33 : ∀  (H : Heap) (locs : List Loc) (ls : Array Slot), va_P (gD g) cl0 ws H → va_D A ws → va_S A s.heap H locs → lv_has ls 6 [(4, .long r_6)] → W p l e (headSpec (wt yX11_lengthOf cX11_lengthOf 6 (some .int)) ({ frames := 2, cells := 0, slots := 0, locals := 43 })).room s m ([.ref h0, .int x1, .int x2] : List Value).toArray below meth c H locs (0) (0) (MQ below (va_Qi (fun (r : Int32) (u9 : Unit) => True) (gQ0 g A ws) A) ([.ref h0, .int x1, .int x2] : List Value).toArray s (0) (0) A) (F0 m 33 ls []) := by
    intro  H locs ls  hP hD hS hl
    refine lv_lload hx hb dX11_lengthOf_33 (lv_at hl 0 rfl) ?_
    refine lv_ldc2 hx hb hown (hts _ kw_200) dX11_lengthOf_35 ?_
    refine W.lcmp hx hb dX11_lengthOf_38 ?_
    refine lv_topi (fun z_10 ez_10 => ?_)
    have J_47 : ∀ (t_11 : Int32) (H : Heap) (locs : List Loc) (ls : Array Slot), 1 ≤ t_11.toInt ∧ t_11.toInt ≤ 2 → va_P (gD g) cl0 ws H → va_D A ws → va_S A s.heap H locs → lv_has ls 6 [] → W p l e (headSpec (wt yX11_lengthOf cX11_lengthOf 6 (some .int)) ({ frames := 2, cells := 0, slots := 0, locals := 43 })).room s m ([.ref h0, .int x1, .int x2] : List Value).toArray below meth c H locs (0) (0) (MQ below (va_Qi (fun (r : Int32) (u9 : Unit) => True) (gQ0 g A ws) A) ([.ref h0, .int x1, .int x2] : List Value).toArray s (0) (0) A) (F0 m 47 ls [.int t_11]) := by
      intro t_11 H locs ls iv_12 hP hD hS hl
      refine W.widen (k := 0) (n := 0) (Nat.le_of_ble_eq_true rfl) (Nat.le_of_ble_eq_true rfl) ?_
      exact W.iret (v := t_11) hx hb hr (fun t9 ht9 hW9 => ⟨⟨_, (), rfl, trivial, ⟨by rw [ht9]; exact hP, hD⟩⟩, hS.F ht9⟩) hS.2.2 dX11_lengthOf_47
    refine lv_if_ge (tgt := 46) hx hb dX11_lengthOf_39 (by decide) (fun c_15 => ?_) (fun c_15 => ?_)
    · refine lv_iconst (v := 2) hx hb dX11_lengthOf_46 (by decide) ?_
      exact J_47 (2) H locs ls (by have e2 : (2 : Int32).toInt = 2 := (by decide); have q_p0 := p0; have q_fq_n := fq_n; have q_f20_1 := f20_1; have g_x1 := i_rg x1; have g_x2 := i_rg x2; omega) hP hD hS (lv_sub hl [] rfl)
    · refine lv_iconst (v := 1) hx hb dX11_lengthOf_42 (by decide) ?_
      refine lv_goto (tgt := 47) hx hb dX11_lengthOf_43 (by decide) ?_
      exact J_47 (1) H locs ls (by have e1 : (1 : Int32).toInt = 1 := (by decide); have q_p0 := p0; have q_fq_n := fq_n; have q_f20_1 := f20_1; have g_x1 := i_rg x1; have g_x2 := i_rg x2; omega) hP hD hS (lv_sub hl [] rfl)
  refine lv_if_ne (tgt := 33) hx hb dX11_lengthOf_23 (by decide) (fun c_16 => ?_) (fun c_16 => ?_)
  · exact J_33  H locs ls  hP hD hS (lv_sub hl [0] rfl)
  · refine lv_iload_n hx hb dX11_lengthOf_26 rfl (lv_at hl 1 rfl) ?_
    have hFc := gfree hD hS hA
    refine va_calli (va_runS (As := [.int r_4]) (rest := []) ⟨hx, hb, hml, hown, hts⟩ (m_X6_isStore l g H.size ws (r_4) hG ) (va_cwS 1 hts (gd_S kw_199 kw_1231 kw_1207 kw_1230) rfl rfl rfl (by decide +kernel) ⟨Nat.le_of_ble_eq_true rfl, Nat.le_of_ble_eq_true rfl⟩) ⟨gblind, fun U hU hW9 => gmk hU hW9 hP hK hD hex hE hS hFc⟩ rfl rfl hl.1 rfl (lv_room (Nat.le_of_ble_eq_true rfl)) dX11_lengthOf_27 ⟨Nat.le_of_ble_eq_true rfl, Nat.le_of_ble_eq_true rfl⟩) hS (fun q _ h => hFc q h) hFc (fun r_17 u9 t9 H1 locs ht9 hvm9 hw9 hB9 hz9 hk9 hS => ?_)
    have hP : va_P (gD g) cl0 ws H1 := by rw [← ht9]; exact hB9.1
    have hz_r_17 : r_17 = 0 ∨ r_17 = 1 := hw9
    clear hB9 hz9 hk9 hvm9 ht9 hw9
    generalize H1 = H at hP hS ⊢
    refine lv_if_eq (tgt := 48) hx hb dX11_lengthOf_30 (by decide) (fun c_18 => ?_) (fun c_18 => ?_)
    · refine lv_iload_n hx hb dX11_lengthOf_48 rfl (lv_at hl 1 rfl) ?_
      have hFc := gfree hD hS hA
      refine va_calli (va_runS (As := [.int r_4]) (rest := []) ⟨hx, hb, hml, hown, hts⟩ (m_X6_isJump l g H.size ws (r_4) hG ) (va_cwS 1 hts (gd_S kw_201 kw_1225 kw_1207 kw_1224) rfl rfl rfl (by decide +kernel) ⟨Nat.le_of_ble_eq_true rfl, Nat.le_of_ble_eq_true rfl⟩) ⟨gblind, fun U hU hW9 => gmk hU hW9 hP hK hD hex hE hS hFc⟩ rfl rfl hl.1 rfl (lv_room (Nat.le_of_ble_eq_true rfl)) dX11_lengthOf_49 ⟨Nat.le_of_ble_eq_true rfl, Nat.le_of_ble_eq_true rfl⟩) hS (fun q _ h => hFc q h) hFc (fun r_19 u9 t9 H1 locs ht9 hvm9 hw9 hB9 hz9 hk9 hS => ?_)
      have hP : va_P (gD g) cl0 ws H1 := by rw [← ht9]; exact hB9.1
      have hz_r_19 : r_19 = 0 ∨ r_19 = 1 := hw9
      clear hB9 hz9 hk9 hvm9 ht9 hw9
      generalize H1 = H at hP hS ⊢
      refine lv_if_eq (tgt := 57) hx hb dX11_lengthOf_52 (by decide) (fun c_20 => ?_) (fun c_20 => ?_)
      · refine lv_iload_n hx hb dX11_lengthOf_57 rfl (lv_at hl 1 rfl) ?_
        have K_58_242 : W p l e (headSpec (wt yX11_lengthOf cX11_lengthOf 6 (some .int)) ({ frames := 2, cells := 0, slots := 0, locals := 43 })).room s m ([.ref h0, .int x1, .int x2] : List Value).toArray below meth c H locs (0) (0) (MQ below (va_Qi (fun (r : Int32) (u9 : Unit) => True) (gQ0 g A ws) A) ([.ref h0, .int x1, .int x2] : List Value).toArray s (0) (0) A) (F0 m 242 ls []) := by
          refine lv_iconst (v := 1) hx hb dX11_lengthOf_242 (by decide) ?_
          refine W.widen (k := 0) (n := 0) (Nat.le_of_ble_eq_true rfl) (Nat.le_of_ble_eq_true rfl) ?_
          exact W.iret (v := 1) hx hb hr (fun t9 ht9 hW9 => ⟨⟨_, (), rfl, trivial, ⟨by rw [ht9]; exact hP, hD⟩⟩, hS.F ht9⟩) hS.2.2 dX11_lengthOf_243
        have K_58_140 : W p l e (headSpec (wt yX11_lengthOf cX11_lengthOf 6 (some .int)) ({ frames := 2, cells := 0, slots := 0, locals := 43 })).room s m ([.ref h0, .int x1, .int x2] : List Value).toArray below meth c H locs (0) (0) (MQ below (va_Qi (fun (r : Int32) (u9 : Unit) => True) (gQ0 g A ws) A) ([.ref h0, .int x1, .int x2] : List Value).toArray s (0) (0) A) (F0 m 140 ls []) := by
          refine lv_lload hx hb dX11_lengthOf_140 (lv_at hl 0 rfl) ?_
          refine lv_aload_n hx hb dX11_lengthOf_142 rfl (lv_at hl 2 rfl) ?_
          refine va_get (D := gD g) (ci := 10) (v := .ref r16_1) (C := RX11) (T := TX11) (N := 18) hx hb hts inX11 hown hK hP k_1 hk_1 rfl 16 (by decide) (hts _ kw_168) (fun _ h9 => h9) rfl dX11_lengthOf_143 ?_
          refine lv_iload_n hx hb dX11_lengthOf_146 rfl (lv_at hl 3 rfl) ?_
          obtain ⟨k_21, f_21, hk_21⟩ := gI_of a_r16_1
          refine va_iald hx hb hK hP k_21 1 hk_21 rfl (i_in2 (by have q_p0 := p0; have q_f20_1 := f20_1; have q_fq_n := fq_n; have g_x1 := i_rg x1; omega)) dX11_lengthOf_147 ?_
          refine lv_topi (fun z_22 ez_22 => ?_)
          have hFc := gfree hD hS hA
          refine va_calli (va_runS (As := [.long r_6, .int z_22]) (rest := []) ⟨hx, hb, hml, hown, hts⟩ (m_X11_lengthOfPush l g H.size ws (r_6) (z_22) hG ) (va_cwS 2 hts (gd_S kw_202 kw_207 kw_83 kw_206) rfl rfl rfl (by decide +kernel) ⟨Nat.le_of_ble_eq_true rfl, Nat.le_of_ble_eq_true rfl⟩) ⟨gblind, fun U hU hW9 => gmk hU hW9 hP hK hD hex hE hS hFc⟩ rfl rfl hl.1 rfl (lv_room (Nat.le_of_ble_eq_true rfl)) dX11_lengthOf_148 ⟨Nat.le_of_ble_eq_true rfl, Nat.le_of_ble_eq_true rfl⟩) hS (fun q _ h => hFc q h) hFc (fun r_23 u9 t9 H1 locs ht9 hvm9 hw9 hB9 hz9 hk9 hS => ?_)
          have hP : va_P (gD g) cl0 ws H1 := by rw [← ht9]; exact hB9.1
          clear hB9 hz9 hk9 hvm9 ht9 hw9
          generalize H1 = H at hP hS ⊢
          refine W.widen (k := 0) (n := 0) (Nat.le_of_ble_eq_true rfl) (Nat.le_of_ble_eq_true rfl) ?_
          exact W.iret (v := r_23) hx hb hr (fun t9 ht9 hW9 => ⟨⟨_, (), rfl, trivial, ⟨by rw [ht9]; exact hP, hD⟩⟩, hS.F ht9⟩) hS.2.2 dX11_lengthOf_151
        have K_58_152 : W p l e (headSpec (wt yX11_lengthOf cX11_lengthOf 6 (some .int)) ({ frames := 2, cells := 0, slots := 0, locals := 43 })).room s m ([.ref h0, .int x1, .int x2] : List Value).toArray below meth c H locs (0) (0) (MQ below (va_Qi (fun (r : Int32) (u9 : Unit) => True) (gQ0 g A ws) A) ([.ref h0, .int x1, .int x2] : List Value).toArray s (0) (0) A) (F0 m 152 ls []) := by
          refine lv_lload hx hb dX11_lengthOf_152 (lv_at hl 0 rfl) ?_
          refine lv_lconst (v := 0) hx hb dX11_lengthOf_154 (by decide) ?_
          refine W.lcmp hx hb dX11_lengthOf_155 ?_
          refine lv_topi (fun z_24 ez_24 => ?_)
          have J_171 : ∀ (t_25 : Int32) (H : Heap) (locs : List Loc) (ls : Array Slot), 1 ≤ t_25.toInt ∧ t_25.toInt ≤ 3 → va_P (gD g) cl0 ws H → va_D A ws → va_S A s.heap H locs → lv_has ls 6 [] → W p l e (headSpec (wt yX11_lengthOf cX11_lengthOf 6 (some .int)) ({ frames := 2, cells := 0, slots := 0, locals := 43 })).room s m ([.ref h0, .int x1, .int x2] : List Value).toArray below meth c H locs (0) (0) (MQ below (va_Qi (fun (r : Int32) (u9 : Unit) => True) (gQ0 g A ws) A) ([.ref h0, .int x1, .int x2] : List Value).toArray s (0) (0) A) (F0 m 171 ls [.int t_25]) := by
            intro t_25 H locs ls iv_26 hP hD hS hl
            refine W.widen (k := 0) (n := 0) (Nat.le_of_ble_eq_true rfl) (Nat.le_of_ble_eq_true rfl) ?_
            exact W.iret (v := t_25) hx hb hr (fun t9 ht9 hW9 => ⟨⟨_, (), rfl, trivial, ⟨by rw [ht9]; exact hP, hD⟩⟩, hS.F ht9⟩) hS.2.2 dX11_lengthOf_171
          have J_166 : ∀  (H : Heap) (locs : List Loc) (ls : Array Slot), va_P (gD g) cl0 ws H → va_D A ws → va_S A s.heap H locs → lv_has ls 6 [] → W p l e (headSpec (wt yX11_lengthOf cX11_lengthOf 6 (some .int)) ({ frames := 2, cells := 0, slots := 0, locals := 43 })).room s m ([.ref h0, .int x1, .int x2] : List Value).toArray below meth c H locs (0) (0) (MQ below (va_Qi (fun (r : Int32) (u9 : Unit) => True) (gQ0 g A ws) A) ([.ref h0, .int x1, .int x2] : List Value).toArray s (0) (0) A) (F0 m 166 ls []) := by
            intro  H locs ls  hP hD hS hl
            refine lv_iconst (v := 1) hx hb dX11_lengthOf_166 (by decide) ?_
            refine lv_goto (tgt := 171) hx hb dX11_lengthOf_167 (by decide) ?_
            exact J_171 (1) H locs ls (by have e1 : (1 : Int32).toInt = 1 := (by decide); have q_p0 := p0; have q_fq_n := fq_n; have q_f20_1 := f20_1; have g_x1 := i_rg x1; have g_x2 := i_rg x2; omega) hP hD hS (lv_sub hl [] rfl)
          refine lv_if_eq (tgt := 166) hx hb dX11_lengthOf_156 (by decide) (fun c_31 => ?_) (fun c_31 => ?_)
          · exact J_166  H locs ls  hP hD hS (lv_sub hl [] rfl)
          · refine lv_lload hx hb dX11_lengthOf_159 (lv_at hl 0 rfl) ?_
            refine lv_lconst (v := 1) hx hb dX11_lengthOf_161 (by decide) ?_
            refine W.lcmp hx hb dX11_lengthOf_162 ?_
            refine lv_topi (fun z_32 ez_32 => ?_)
            refine lv_if_ne (tgt := 170) hx hb dX11_lengthOf_163 (by decide) (fun c_33 => ?_) (fun c_33 => ?_)
            · refine lv_iconst (v := 3) hx hb dX11_lengthOf_170 (by decide) ?_
              exact J_171 (3) H locs ls (by have e3 : (3 : Int32).toInt = 3 := (by decide); have q_p0 := p0; have q_fq_n := fq_n; have q_f20_1 := f20_1; have g_x1 := i_rg x1; have g_x2 := i_rg x2; omega) hP hD hS (lv_sub hl [] rfl)
            · exact J_166  H locs ls  hP hD hS (lv_sub hl [] rfl)
        have K_58_172 : W p l e (headSpec (wt yX11_lengthOf cX11_lengthOf 6 (some .int)) ({ frames := 2, cells := 0, slots := 0, locals := 43 })).room s m ([.ref h0, .int x1, .int x2] : List Value).toArray below meth c H locs (0) (0) (MQ below (va_Qi (fun (r : Int32) (u9 : Unit) => True) (gQ0 g A ws) A) ([.ref h0, .int x1, .int x2] : List Value).toArray s (0) (0) A) (F0 m 172 ls []) := by
          refine lv_aload_n hx hb dX11_lengthOf_172 rfl (lv_at hl 2 rfl) ?_
          refine va_get (D := gD g) (ci := 10) (v := .ref b_2) (C := RX11) (T := TX11) (N := 18) hx hb hts inX11 hown hK hP k_1 hk_1 rfl 15 (by decide) (hts _ kw_84) (fun _ h9 => h9) rfl dX11_lengthOf_173 ?_
          refine lv_iload_n hx hb dX11_lengthOf_176 rfl (lv_at hl 3 rfl) ?_
          have hFc := gfree hD hS hA
          obtain ⟨k_34, fs_34, hk_34⟩ := gC_of o_b_2
          refine va_calli (va_runV (As := [.int x1]) (rest := []) ⟨hx, hb, hml, hown, hts⟩ (m_X8_stepOf l g H.size ws b_2 (x1) hG o_b_2) (cwV 1 hts (gd_V kw_203 kw_1531 kw_1532 kw_782 kw_1530) rfl rfl rfl (by decide +kernel) ⟨Nat.le_of_ble_eq_true rfl, Nat.le_of_ble_eq_true rfl⟩) ⟨gblind, va_recv hK hP (ci := 7) (q0 := k_34) rfl hk_34, fun U hU hW9 => gmk hU hW9 hP hK hD hex hE hS hFc⟩ rfl rfl hl.1 rfl (lv_room (Nat.le_of_ble_eq_true rfl)) dX11_lengthOf_177 ⟨Nat.le_of_ble_eq_true rfl, Nat.le_of_ble_eq_true rfl⟩) hS (fun q _ h => hFc q h) hFc (fun r_35 u9 t9 H1 locs ht9 hvm9 hw9 hB9 hz9 hk9 hS => ?_)
          have hP : va_P (gD g) cl0 ws H1 := by rw [← ht9]; exact hB9.1
          clear hB9 hz9 hk9 hvm9 ht9 hw9
          generalize H1 = H at hP hS ⊢
          obtain ⟨z_36, ez_36⟩ : ∃ y : Int64, (r_35 : Int32).toInt64 = y := ⟨_, rfl⟩
          refine lv_i2l (v := z_36) hx hb dX11_lengthOf_180 ez_36 ?_
          have hFc := gfree hD hS hA
          refine va_calli (va_runS (As := [.long z_36]) (rest := []) ⟨hx, hb, hml, hown, hts⟩ (m_X11_isByte l g H.size ws (z_36) hG ) (va_cwS 1 hts (gd_S kw_204 kw_174 kw_83 kw_173) rfl rfl rfl (by decide +kernel) ⟨Nat.le_of_ble_eq_true rfl, Nat.le_of_ble_eq_true rfl⟩) ⟨gblind, fun U hU hW9 => gmk hU hW9 hP hK hD hex hE hS hFc⟩ rfl rfl hl.1 rfl (lv_room (Nat.le_of_ble_eq_true rfl)) dX11_lengthOf_181 ⟨Nat.le_of_ble_eq_true rfl, Nat.le_of_ble_eq_true rfl⟩) hS (fun q _ h => hFc q h) hFc (fun r_37 u9 t9 H1 locs ht9 hvm9 hw9 hB9 hz9 hk9 hS => ?_)
          have hP : va_P (gD g) cl0 ws H1 := by rw [← ht9]; exact hB9.1
          have hz_r_37 : r_37 = 0 ∨ r_37 = 1 := hw9
          clear hB9 hz9 hk9 hvm9 ht9 hw9
          generalize H1 = H at hP hS ⊢
          have J_193 : ∀ (t_38 : Int32) (H : Heap) (locs : List Loc) (ls : Array Slot), 3 ≤ t_38.toInt ∧ t_38.toInt ≤ 6 → va_P (gD g) cl0 ws H → va_D A ws → va_S A s.heap H locs → lv_has ls 6 [] → W p l e (headSpec (wt yX11_lengthOf cX11_lengthOf 6 (some .int)) ({ frames := 2, cells := 0, slots := 0, locals := 43 })).room s m ([.ref h0, .int x1, .int x2] : List Value).toArray below meth c H locs (0) (0) (MQ below (va_Qi (fun (r : Int32) (u9 : Unit) => True) (gQ0 g A ws) A) ([.ref h0, .int x1, .int x2] : List Value).toArray s (0) (0) A) (F0 m 193 ls [.int t_38]) := by
            intro t_38 H locs ls iv_39 hP hD hS hl
            refine W.widen (k := 0) (n := 0) (Nat.le_of_ble_eq_true rfl) (Nat.le_of_ble_eq_true rfl) ?_
            exact W.iret (v := t_38) hx hb hr (fun t9 ht9 hW9 => ⟨⟨_, (), rfl, trivial, ⟨by rw [ht9]; exact hP, hD⟩⟩, hS.F ht9⟩) hS.2.2 dX11_lengthOf_193
          refine lv_if_eq (tgt := 191) hx hb dX11_lengthOf_184 (by decide) (fun c_42 => ?_) (fun c_42 => ?_)
          · refine lv_bipush (v := 6) hx hb dX11_lengthOf_191 (by decide) ?_
            exact J_193 (6) H locs ls (by have e6 : (6 : Int32).toInt = 6 := (by decide); have q_p0 := p0; have q_fq_n := fq_n; have q_f20_1 := f20_1; have g_x1 := i_rg x1; have g_x2 := i_rg x2; omega) hP hD hS (lv_sub hl [] rfl)
          · refine lv_iconst (v := 3) hx hb dX11_lengthOf_187 (by decide) ?_
            refine lv_goto (tgt := 193) hx hb dX11_lengthOf_188 (by decide) ?_
            exact J_193 (3) H locs ls (by have e3 : (3 : Int32).toInt = 3 := (by decide); have q_p0 := p0; have q_fq_n := fq_n; have q_f20_1 := f20_1; have g_x1 := i_rg x1; have g_x2 := i_rg x2; omega) hP hD hS (lv_sub hl [] rfl)
        have K_58_194 : W p l e (headSpec (wt yX11_lengthOf cX11_lengthOf 6 (some .int)) ({ frames := 2, cells := 0, slots := 0, locals := 43 })).room s m ([.ref h0, .int x1, .int x2] : List Value).toArray below meth c H locs (0) (0) (MQ below (va_Qi (fun (r : Int32) (u9 : Unit) => True) (gQ0 g A ws) A) ([.ref h0, .int x1, .int x2] : List Value).toArray s (0) (0) A) (F0 m 194 ls []) := by
          refine lv_iload_n hx hb dX11_lengthOf_194 rfl (lv_at hl 4 rfl) ?_
          refine lv_iconst (v := 4) hx hb dX11_lengthOf_195 (by decide) ?_
          refine lv_iadd hx hb dX11_lengthOf_196 ?_
          refine lv_topi (fun z_43 ez_43 => ?_)
          refine lv_bipush (v := (-4)) hx hb dX11_lengthOf_197 (by decide) ?_
          refine lv_iand hx hb dX11_lengthOf_199 ?_
          refine lv_topi (fun z_44 ez_44 => ?_)
          refine lv_iload_n hx hb dX11_lengthOf_200 rfl (lv_at hl 4 rfl) ?_
          refine lv_isub hx hb dX11_lengthOf_201 ?_
          refine lv_topi (fun z_45 ez_45 => ?_)
          refine lv_bipush (v := 8) hx hb dX11_lengthOf_202 (by decide) ?_
          refine lv_iadd hx hb dX11_lengthOf_204 ?_
          refine lv_topi (fun z_46 ez_46 => ?_)
          refine lv_iconst (v := 4) hx hb dX11_lengthOf_205 (by decide) ?_
          refine lv_aload_n hx hb dX11_lengthOf_206 rfl (lv_at hl 2 rfl) ?_
          refine va_get (D := gD g) (ci := 10) (v := .ref b_2) (C := RX11) (T := TX11) (N := 18) hx hb hts inX11 hown hK hP k_1 hk_1 rfl 15 (by decide) (hts _ kw_84) (fun _ h9 => h9) rfl dX11_lengthOf_207 ?_
          refine lv_iload_n hx hb dX11_lengthOf_210 rfl (lv_at hl 3 rfl) ?_
          have hFc := gfree hD hS hA
          obtain ⟨k_47, fs_47, hk_47⟩ := gC_of o_b_2
          refine va_calli (va_runV (As := [.int x1]) (rest := [.int 4, .int z_46]) ⟨hx, hb, hml, hown, hts⟩ (m_X8_targetCount l g H.size ws b_2 (x1) hG o_b_2) (cwV 1 hts (gd_V kw_205 kw_1541 kw_1542 kw_782 kw_1540) rfl rfl rfl (by decide +kernel) ⟨Nat.le_of_ble_eq_true rfl, Nat.le_of_ble_eq_true rfl⟩) ⟨gblind, va_recv hK hP (ci := 7) (q0 := k_47) rfl hk_47, fun U hU hW9 => gmk hU hW9 hP hK hD hex hE hS hFc⟩ rfl rfl hl.1 rfl (lv_room (Nat.le_of_ble_eq_true rfl)) dX11_lengthOf_211 ⟨Nat.le_of_ble_eq_true rfl, Nat.le_of_ble_eq_true rfl⟩) hS (fun q _ h => hFc q h) hFc (fun r_48 u9 t9 H1 locs ht9 hvm9 hw9 hB9 hz9 hk9 hS => ?_)
          have hP : va_P (gD g) cl0 ws H1 := by rw [← ht9]; exact hB9.1
          clear hB9 hz9 hk9 hvm9 ht9 hw9
          generalize H1 = H at hP hS ⊢
          refine lv_imul hx hb dX11_lengthOf_214 ?_
          refine lv_topi (fun z_49 ez_49 => ?_)
          refine lv_iadd hx hb dX11_lengthOf_215 ?_
          refine lv_topi (fun z_50 ez_50 => ?_)
          refine W.widen (k := 0) (n := 0) (Nat.le_of_ble_eq_true rfl) (Nat.le_of_ble_eq_true rfl) ?_
          exact W.iret (v := z_50) hx hb hr (fun t9 ht9 hW9 => ⟨⟨_, (), rfl, trivial, ⟨by rw [ht9]; exact hP, hD⟩⟩, hS.F ht9⟩) hS.2.2 dX11_lengthOf_216
        have K_58_217 : W p l e (headSpec (wt yX11_lengthOf cX11_lengthOf 6 (some .int)) ({ frames := 2, cells := 0, slots := 0, locals := 43 })).room s m ([.ref h0, .int x1, .int x2] : List Value).toArray below meth c H locs (0) (0) (MQ below (va_Qi (fun (r : Int32) (u9 : Unit) => True) (gQ0 g A ws) A) ([.ref h0, .int x1, .int x2] : List Value).toArray s (0) (0) A) (F0 m 217 ls []) := by
          refine lv_iload_n hx hb dX11_lengthOf_217 rfl (lv_at hl 4 rfl) ?_
          refine lv_iconst (v := 4) hx hb dX11_lengthOf_218 (by decide) ?_
          refine lv_iadd hx hb dX11_lengthOf_219 ?_
          refine lv_topi (fun z_51 ez_51 => ?_)
          refine lv_bipush (v := (-4)) hx hb dX11_lengthOf_220 (by decide) ?_
          refine lv_iand hx hb dX11_lengthOf_222 ?_
          refine lv_topi (fun z_52 ez_52 => ?_)
          refine lv_iload_n hx hb dX11_lengthOf_223 rfl (lv_at hl 4 rfl) ?_
          refine lv_isub hx hb dX11_lengthOf_224 ?_
          refine lv_topi (fun z_53 ez_53 => ?_)
          refine lv_bipush (v := 8) hx hb dX11_lengthOf_225 (by decide) ?_
          refine lv_aload_n hx hb dX11_lengthOf_227 rfl (lv_at hl 2 rfl) ?_
          refine va_get (D := gD g) (ci := 10) (v := .ref b_2) (C := RX11) (T := TX11) (N := 18) hx hb hts inX11 hown hK hP k_1 hk_1 rfl 15 (by decide) (hts _ kw_84) (fun _ h9 => h9) rfl dX11_lengthOf_228 ?_
          refine lv_iload_n hx hb dX11_lengthOf_231 rfl (lv_at hl 3 rfl) ?_
          have hFc := gfree hD hS hA
          obtain ⟨k_54, fs_54, hk_54⟩ := gC_of o_b_2
          refine va_calli (va_runV (As := [.int x1]) (rest := [.int 8, .int z_53]) ⟨hx, hb, hml, hown, hts⟩ (m_X8_targetCount l g H.size ws b_2 (x1) hG o_b_2) (cwV 1 hts (gd_V kw_205 kw_1541 kw_1542 kw_782 kw_1540) rfl rfl rfl (by decide +kernel) ⟨Nat.le_of_ble_eq_true rfl, Nat.le_of_ble_eq_true rfl⟩) ⟨gblind, va_recv hK hP (ci := 7) (q0 := k_54) rfl hk_54, fun U hU hW9 => gmk hU hW9 hP hK hD hex hE hS hFc⟩ rfl rfl hl.1 rfl (lv_room (Nat.le_of_ble_eq_true rfl)) dX11_lengthOf_232 ⟨Nat.le_of_ble_eq_true rfl, Nat.le_of_ble_eq_true rfl⟩) hS (fun q _ h => hFc q h) hFc (fun r_55 u9 t9 H1 locs ht9 hvm9 hw9 hB9 hz9 hk9 hS => ?_)
          have hP : va_P (gD g) cl0 ws H1 := by rw [← ht9]; exact hB9.1
          clear hB9 hz9 hk9 hvm9 ht9 hw9
          generalize H1 = H at hP hS ⊢
          refine lv_imul hx hb dX11_lengthOf_235 ?_
          refine lv_topi (fun z_56 ez_56 => ?_)
          refine lv_iadd hx hb dX11_lengthOf_236 ?_
          refine lv_topi (fun z_57 ez_57 => ?_)
          refine W.widen (k := 0) (n := 0) (Nat.le_of_ble_eq_true rfl) (Nat.le_of_ble_eq_true rfl) ?_
          exact W.iret (v := z_57) hx hb hr (fun t9 ht9 hW9 => ⟨⟨_, (), rfl, trivial, ⟨by rw [ht9]; exact hP, hD⟩⟩, hS.F ht9⟩) hS.2.2 dX11_lengthOf_237
        have K_58_238 : W p l e (headSpec (wt yX11_lengthOf cX11_lengthOf 6 (some .int)) ({ frames := 2, cells := 0, slots := 0, locals := 43 })).room s m ([.ref h0, .int x1, .int x2] : List Value).toArray below meth c H locs (0) (0) (MQ below (va_Qi (fun (r : Int32) (u9 : Unit) => True) (gQ0 g A ws) A) ([.ref h0, .int x1, .int x2] : List Value).toArray s (0) (0) A) (F0 m 238 ls []) := by
          refine lv_iconst (v := 3) hx hb dX11_lengthOf_238 (by decide) ?_
          refine W.widen (k := 0) (n := 0) (Nat.le_of_ble_eq_true rfl) (Nat.le_of_ble_eq_true rfl) ?_
          exact W.iret (v := 3) hx hb hr (fun t9 ht9 hW9 => ⟨⟨_, (), rfl, trivial, ⟨by rw [ht9]; exact hP, hD⟩⟩, hS.F ht9⟩) hS.2.2 dX11_lengthOf_239
        have K_58_240 : W p l e (headSpec (wt yX11_lengthOf cX11_lengthOf 6 (some .int)) ({ frames := 2, cells := 0, slots := 0, locals := 43 })).room s m ([.ref h0, .int x1, .int x2] : List Value).toArray below meth c H locs (0) (0) (MQ below (va_Qi (fun (r : Int32) (u9 : Unit) => True) (gQ0 g A ws) A) ([.ref h0, .int x1, .int x2] : List Value).toArray s (0) (0) A) (F0 m 240 ls []) := by
          refine lv_iconst (v := 2) hx hb dX11_lengthOf_240 (by decide) ?_
          refine W.widen (k := 0) (n := 0) (Nat.le_of_ble_eq_true rfl) (Nat.le_of_ble_eq_true rfl) ?_
          exact W.iret (v := 2) hx hb hr (fun t9 ht9 hW9 => ⟨⟨_, (), rfl, trivial, ⟨by rw [ht9]; exact hP, hD⟩⟩, hS.F ht9⟩) hS.2.2 dX11_lengthOf_241
        by_cases c9_17 : (r_4 : Int32).toInt = 17
        · exact lv_lookup (off := 82) (tgt := 140) hx hb dX11_lengthOf_58 (by decide) (by rw [c9_17]; decide) (by decide) K_58_140
        by_cases c9_20 : (r_4 : Int32).toInt = 20
        · exact lv_lookup (off := 94) (tgt := 152) hx hb dX11_lengthOf_58 (by decide) (by rw [c9_20]; decide) (by decide) K_58_152
        by_cases c9_132 : (r_4 : Int32).toInt = 132
        · exact lv_lookup (off := 114) (tgt := 172) hx hb dX11_lengthOf_58 (by decide) (by rw [c9_132]; decide) (by decide) K_58_172
        by_cases c9_170 : (r_4 : Int32).toInt = 170
        · exact lv_lookup (off := 136) (tgt := 194) hx hb dX11_lengthOf_58 (by decide) (by rw [c9_170]; decide) (by decide) K_58_194
        by_cases c9_171 : (r_4 : Int32).toInt = 171
        · exact lv_lookup (off := 159) (tgt := 217) hx hb dX11_lengthOf_58 (by decide) (by rw [c9_171]; decide) (by decide) K_58_217
        by_cases c9_178 : (r_4 : Int32).toInt = 178
        · exact lv_lookup (off := 180) (tgt := 238) hx hb dX11_lengthOf_58 (by decide) (by rw [c9_178]; decide) (by decide) K_58_238
        by_cases c9_179 : (r_4 : Int32).toInt = 179
        · exact lv_lookup (off := 180) (tgt := 238) hx hb dX11_lengthOf_58 (by decide) (by rw [c9_179]; decide) (by decide) K_58_238
        by_cases c9_184 : (r_4 : Int32).toInt = 184
        · exact lv_lookup (off := 180) (tgt := 238) hx hb dX11_lengthOf_58 (by decide) (by rw [c9_184]; decide) (by decide) K_58_238
        by_cases c9_188 : (r_4 : Int32).toInt = 188
        · exact lv_lookup (off := 182) (tgt := 240) hx hb dX11_lengthOf_58 (by decide) (by rw [c9_188]; decide) (by decide) K_58_240
        exact lv_lookup (off := 184) (tgt := 242) hx hb dX11_lengthOf_58 (by decide) (lk_cons c9_17 (lk_cons c9_20 (lk_cons c9_132 (lk_cons c9_170 (lk_cons c9_171 (lk_cons c9_178 (lk_cons c9_179 (lk_cons c9_184 (lk_cons c9_188 lk_nil))))))))) (by decide) K_58_242
      · refine lv_iconst (v := 3) hx hb dX11_lengthOf_55 (by decide) ?_
        refine W.widen (k := 0) (n := 0) (Nat.le_of_ble_eq_true rfl) (Nat.le_of_ble_eq_true rfl) ?_
        exact W.iret (v := 3) hx hb hr (fun t9 ht9 hW9 => ⟨⟨_, (), rfl, trivial, ⟨by rw [ht9]; exact hP, hD⟩⟩, hS.F ht9⟩) hS.2.2 dX11_lengthOf_56
    · exact J_33  H locs ls  hP hD hS (lv_sub hl [0] rfl)
set_option maxHeartbeats 1000000 in
set_option maxRecDepth 100000 in
theorem m_X5_move (l : Launch) (g : Gm) (sz : Nat) (ws : va_W) (h0 : Nat) (x1 : Int32) (hG : Good g ws) (o_h0 : gC ws h0 5) (nn_h0_12 : gN ws h0 12) : Met l yX5_move (wt yX5_move cX5_move 3 none) ({ frames := 2, cells := 0, slots := 0, locals := 46 }) (va_Pc [.ref h0, .int x1] (st_G g sz ws)) (va_Qv (fun (u9 : va_W) => True) (gQ1 g [(5, 14), (5, 19)] [(5, 8), (5, 9)] none (va_A ws sz) ws) (va_A ws sz)) (0) (0) (va_A ws sz) := by
  refine Met.ofW (cc := cX5_move) (maxL := 3) (ret := none) (by decide) rfl ?_
  intro p e s m args below meth c s₁ B hml hv
  obtain ⟨rfl, hsz, hP, hK, hD0, hex, hE⟩ := hv
  have hx := B.exec
  have hb := B.bytes
  have hr := B.returns
  have hts0 := atoms_spec (ws := wt yX5_move cX5_move 3 none) B.pre
  have hts : ∀ w ∈ tb, w.before _ s = true := fun w h => hts0 w (List.mem_cons_of_mem _ h)
  have hown : s.vm.findClass RX5 = some m.cls := findClass_of_methodNamed B.named
  subst hsz
  have hD := hD0.self (sz := s.heap.size)
  generalize hAe : va_A ws s.heap.size = A at hD hE ⊢
  have hA : ∀ q : Nat, s.heap.size ≤ q → A q := fun q h => by rw [← hAe]; exact Or.inr h
  have hS : va_S A s.heap s.heap [] := va_S.rf
  have hl := lv_entry ([.ref h0, .int x1]) (n := 3) (Nat.le_of_ble_eq_true rfl)
  rw [lg_entry_eq]
  generalize (lg_sl ([.ref h0, .int x1]) ++ List.replicate (3 - (lg_sl ([.ref h0, .int x1])).length) Slot.unset).toArray = ls at hl ⊢
  have hl : lv_has ls 3 [(0, .ref h0), (1, .int x1)] := hl
  obtain ⟨k_1, fs9, hk_1⟩ := gC_of o_h0
  obtain ⟨v0_1, r1_1, n1_1, r2_1, n2_1, c3_1, r4_1, n4_1, c5_1, r6_1, n6_1, c7_1, r8_1, n8_1, r9_1, n9_1, r10_1, n10_1, c11_1, v12_1, c13_1, c14_1, c15_1, l16_1, c17_1, c18_1, c19_1, rfl, o_v0_1, F_v0_1, a_r1_1, f3_1, a_r2_1, f5_1, a_r4_1, f7_1, a_r6_1, f9_1, a_r8_1, f11_1, a_r9_1, f13_1, a_r10_1, f15_1, o_v12_1, f17_1, f18_1, f19_1, f20_1, f21_1, f22_1, f23_1, f24_1, f25_1, f26_1, f27_1, f28_1, f29_1, f30_1, f31_1, -⟩ := (hG.1 _ _ _ _ hk_1).hX5 rfl
  obtain ⟨b_2, hn9⟩ := nn_h0_12 _ _ _ hk_1
  have hn9 := fe_qr hn9
  subst hn9
  have o_b_2 := o_v12_1 _ rfl
  refine lv_aload_n hx hb dX5_move_0 rfl (lv_at hl 0 rfl) ?_
  refine va_get (D := gD g) (ci := 5) (v := .ref b_2) (C := RX5) (T := TX5) (N := 20) hx hb hts inX5 hown hK hP k_1 hk_1 rfl 12 (by decide) (hts _ kw_1030) (fun _ h9 => h9) rfl dX5_move_1 ?_
  refine lv_aload_n hx hb dX5_move_4 rfl (lv_at hl 0 rfl) ?_
  refine va_get (D := gD g) (ci := 5) (v := .int c13_1) (C := RX5) (T := TX5) (N := 20) hx hb hts inX5 hown hK hP k_1 hk_1 rfl 13 (by decide) (hts _ kw_1021) (fun _ h9 => h9) rfl dX5_move_5 ?_
  have hFc := gfree hD hS hA
  obtain ⟨k_3, fs_3, hk_3⟩ := gC_of o_b_2
  refine va_calli (va_runV (As := [.int c13_1]) (rest := []) ⟨hx, hb, hml, hown, hts⟩ (m_X8_localOf l g s.heap.size ws b_2 (c13_1) hG o_b_2) (cwV 1 hts (gd_V kw_1103 kw_1509 kw_1510 kw_782 kw_1508) rfl rfl rfl (by decide +kernel) ⟨Nat.le_of_ble_eq_true rfl, Nat.le_of_ble_eq_true rfl⟩) ⟨gblind, va_recv hK hP (ci := 7) (q0 := k_3) rfl hk_3, fun U hU hW9 => gmk hU hW9 hP hK hD hex hE hS hFc⟩ rfl rfl hl.1 rfl (lv_room (Nat.le_of_ble_eq_true rfl)) dX5_move_8 ⟨Nat.le_of_ble_eq_true rfl, Nat.le_of_ble_eq_true rfl⟩) hS (fun q _ h => hFc q h) hFc (fun r_4 u9 t9 H1 locs ht9 hvm9 hw9 hB9 hz9 hk9 hS => ?_)
  have hP : va_P (gD g) cl0 ws H1 := by rw [← ht9]; exact hB9.1
  clear hB9 hz9 hk9 hvm9 ht9 hw9
  generalize H1 = H at hP hS ⊢
  refine lv_istore_n (lv' := [(2, .int r_4), (0, .ref h0), (1, .int x1)]) hx hb dX5_move_11 rfl hl (by decide) rfl (fun ls hl => ?_)
  refine lv_iload_n hx hb dX5_move_12 rfl (lv_at hl 2 rfl) ?_
  refine lv_bipush (v := 17) hx hb dX5_move_13 (by decide) ?_
  have J_145 : ∀ (ws_5 : va_W) (H : Heap) (locs : List Loc) (ls : Array Slot), gE ws ws_5 → gF [(5, 14), (5, 19)] [(5, 8), (5, 9)] none ws ws_5 → Good g ws_5 → va_P (gD g) cl0 ws_5 H → va_D A ws_5 → va_S A s.heap H locs → lv_has ls 3 [] → W p l e (headSpec (wt yX5_move cX5_move 3 none) ({ frames := 2, cells := 0, slots := 0, locals := 46 })).room s m ([.ref h0, .int x1] : List Value).toArray below meth c H locs (0) (0) (MQ below (va_Qv (fun (u9 : va_W) => True) (gQ1 g [(5, 14), (5, 19)] [(5, 8), (5, 9)] none A ws) A) ([.ref h0, .int x1] : List Value).toArray s (0) (0) A) (F0 m 145 ls []) := by
    intro ws_5 H locs ls  E_6 Fr_7 hG hP hD hS hl
    have aa_8 := a_r1_1
    have aa_9 := a_r2_1
    have aa_10 := a_r4_1
    have aa_11 := a_r6_1
    have aa_12 := a_r8_1
    have aa_13 := a_r9_1
    have aa_14 := a_r10_1
    have o_h0 := E_6.1 _ _ o_h0
    refine W.widen (k := 0) (n := 0) (Nat.le_of_ble_eq_true rfl) (Nat.le_of_ble_eq_true rfl) ?_
    exact W.vret hx hb hr (fun t9 ht9 hW9 => ⟨⟨ws_5, rfl, trivial, ⟨E_6, Fr_7, hG, by rw [ht9]; exact hP, hD⟩⟩, hS.F ht9⟩) hS.2.2 dX5_move_145
  have J_29 : ∀  (H : Heap) (locs : List Loc) (ls : Array Slot), va_P (gD g) cl0 ws H → va_D A ws → va_S A s.heap H locs → lv_has ls 3 [(0, .ref h0), (1, .int x1)] → W p l e (headSpec (wt yX5_move cX5_move 3 none) ({ frames := 2, cells := 0, slots := 0, locals := 46 })).room s m ([.ref h0, .int x1] : List Value).toArray below meth c H locs (0) (0) (MQ below (va_Qv (fun (u9 : va_W) => True) (gQ1 g [(5, 14), (5, 19)] [(5, 8), (5, 9)] none A ws) A) ([.ref h0, .int x1] : List Value).toArray s (0) (0) A) (F0 m 29 ls []) := by
    intro  H locs ls  hP hD hS hl
    refine lv_aload_n hx hb dX5_move_29 rfl (lv_at hl 0 rfl) ?_
    refine lv_iload_n hx hb dX5_move_30 rfl (lv_at hl 1 rfl) ?_
    have hFc := gfree hD hS hA
    refine va_calli (va_runS (As := [.int x1]) (rest := [.ref h0]) ⟨hx, hb, hml, hown, hts⟩ (m_X6_gives l g H.size ws (x1) hG ) (va_cwS 1 hts (gd_S kw_1018 kw_1216 kw_1207 kw_1215) rfl rfl rfl (by decide +kernel) ⟨Nat.le_of_ble_eq_true rfl, Nat.le_of_ble_eq_true rfl⟩) ⟨gblind, fun U hU hW9 => gmk hU hW9 hP hK hD hex hE hS hFc⟩ rfl rfl hl.1 rfl (lv_room (Nat.le_of_ble_eq_true rfl)) dX5_move_31 ⟨Nat.le_of_ble_eq_true rfl, Nat.le_of_ble_eq_true rfl⟩) hS (fun q _ h => hFc q h) hFc (fun r_17 u9 t9 H1 locs ht9 hvm9 hw9 hB9 hz9 hk9 hS => ?_)
    have hP : va_P (gD g) cl0 ws H1 := by rw [← ht9]; exact hB9.1
    clear hB9 hz9 hk9 hvm9 ht9 hw9
    generalize H1 = H at hP hS ⊢
    refine lv_aload_n hx hb dX5_move_34 rfl (lv_at hl 0 rfl) ?_
    refine va_get (D := gD g) (ci := 5) (v := .ref b_2) (C := RX5) (T := TX5) (N := 20) hx hb hts inX5 hown hK hP k_1 hk_1 rfl 12 (by decide) (hts _ kw_1030) (fun _ h9 => h9) rfl dX5_move_35 ?_
    refine lv_aload_n hx hb dX5_move_38 rfl (lv_at hl 0 rfl) ?_
    refine va_get (D := gD g) (ci := 5) (v := .int c13_1) (C := RX5) (T := TX5) (N := 20) hx hb hts inX5 hown hK hP k_1 hk_1 rfl 13 (by decide) (hts _ kw_1021) (fun _ h9 => h9) rfl dX5_move_39 ?_
    have hFc := gfree hD hS hA
    obtain ⟨k_18, fs_18, hk_18⟩ := gC_of o_b_2
    refine va_calll (va_runV (As := [.int c13_1]) (rest := [.int r_17, .ref h0]) ⟨hx, hb, hml, hown, hts⟩ (m_X8_argAt l g H.size ws b_2 (c13_1) hG o_b_2) (cwV 1 hts (gd_V kw_1104 kw_1476 kw_1477 kw_782 kw_1475) rfl rfl rfl (by decide +kernel) ⟨Nat.le_of_ble_eq_true rfl, Nat.le_of_ble_eq_true rfl⟩) ⟨gblind, va_recv hK hP (ci := 7) (q0 := k_18) rfl hk_18, fun U hU hW9 => gmk hU hW9 hP hK hD hex hE hS hFc⟩ rfl rfl hl.1 rfl (lv_room (Nat.le_of_ble_eq_true rfl)) dX5_move_42 ⟨Nat.le_of_ble_eq_true rfl, Nat.le_of_ble_eq_true rfl⟩) hS (fun q _ h => hFc q h) hFc (fun r_19 u9 t9 H1 locs ht9 hvm9 hw9 hB9 hz9 hk9 hS => ?_)
    have hP : va_P (gD g) cl0 ws H1 := by rw [← ht9]; exact hB9.1
    clear hB9 hz9 hk9 hvm9 ht9 hw9
    generalize H1 = H at hP hS ⊢
    have hFc := gfree hD hS hA
    refine va_callv (va_runV (As := [.int r_17, .long r_19]) (rest := []) ⟨hx, hb, hml, hown, hts⟩ (m_X5_push_ l g H.size ws h0 (r_17) (r_19) hG o_h0) (cwV 2 hts (gd_V kw_1020 kw_1133 kw_1134 kw_398 kw_1132) rfl rfl rfl (by decide +kernel) ⟨Nat.le_of_ble_eq_true rfl, Nat.le_of_ble_eq_true rfl⟩) ⟨gblind, va_recv hK hP (ci := 5) (q0 := k_1) rfl hk_1, fun U hU hW9 => gmk hU hW9 hP hK hD hex hE hS hFc⟩ rfl rfl hl.1 rfl (lv_room (Nat.le_of_ble_eq_true rfl)) dX5_move_45 ⟨Nat.le_of_ble_eq_true rfl, Nat.le_of_ble_eq_true rfl⟩) hS (fun q _ h => hFc q h) hFc (fun  ws_20 t9 H1 locs ht9 hvm9 hw9 hB9 hz9 hk9 hS => ?_)
    obtain ⟨E_21, Fr_22, hG, hP1, hD1⟩ := hB9
    have hP : va_P (gD g) cl0 ws_20 H1 := by rw [← ht9]; exact hP1
    have hD : va_D A ws_20 := hD1.weaken (fun _ _ _ h => hFc _ h)
    clear hP1 hD1 hz9 hk9 hvm9 ht9 hw9
    generalize H1 = H at hP hS ⊢
    have aa_25 := a_r1_1
    have aa_26 := a_r2_1
    have aa_27 := a_r4_1
    have aa_28 := a_r6_1
    have aa_29 := a_r8_1
    have aa_30 := a_r9_1
    have aa_31 := a_r10_1
    have o_h0 := E_21.1 _ _ o_h0
    refine lv_goto (tgt := 145) hx hb dX5_move_48 (by decide) ?_
    exact J_145 ws_20 H locs ls (E_21) ((gF.mo (F' := [(5, 14), (5, 19)]) (C' := [(5, 8), (5, 9)]) (S' := none) Fr_22 (fun _ h => h) (by decide) (Or.inr rfl))) hG hP hD hS (lv_sub hl [] rfl)
  refine lv_icmp_eq (tgt := 29) hx hb dX5_move_15 (by decide) (fun c_32 => ?_) (fun c_32 => ?_)
  · exact J_29  H locs ls  hP hD hS (lv_sub hl [1, 2] rfl)
  · refine lv_iload_n hx hb dX5_move_18 rfl (lv_at hl 2 rfl) ?_
    refine lv_bipush (v := 20) hx hb dX5_move_19 (by decide) ?_
    refine lv_icmp_eq (tgt := 29) hx hb dX5_move_21 (by decide) (fun c_33 => ?_) (fun c_33 => ?_)
    · exact J_29  H locs ls  hP hD hS (lv_sub hl [1, 2] rfl)
    · refine lv_iload_n hx hb dX5_move_24 rfl (lv_at hl 2 rfl) ?_
      refine lv_iconst (v := 1) hx hb dX5_move_25 (by decide) ?_
      refine lv_icmp_ne (tgt := 51) hx hb dX5_move_26 (by decide) (fun c_34 => ?_) (fun c_34 => ?_)
      · refine lv_iload_n hx hb dX5_move_51 rfl (lv_at hl 2 rfl) ?_
        have hFc := gfree hD hS hA
        refine va_calli (va_runS (As := [.int x1]) (rest := []) ⟨hx, hb, hml, hown, hts⟩ (m_X6_isLoad l g H.size ws (x1) hG ) (va_cwS 1 hts (gd_S kw_1105 kw_1227 kw_1207 kw_1226) rfl rfl rfl (by decide +kernel) ⟨Nat.le_of_ble_eq_true rfl, Nat.le_of_ble_eq_true rfl⟩) ⟨gblind, fun U hU hW9 => gmk hU hW9 hP hK hD hex hE hS hFc⟩ rfl rfl hl.1 rfl (lv_room (Nat.le_of_ble_eq_true rfl)) dX5_move_52 ⟨Nat.le_of_ble_eq_true rfl, Nat.le_of_ble_eq_true rfl⟩) hS (fun q _ h => hFc q h) hFc (fun r_35 u9 t9 H1 locs ht9 hvm9 hw9 hB9 hz9 hk9 hS => ?_)
        have hP : va_P (gD g) cl0 ws H1 := by rw [← ht9]; exact hB9.1
        have hz_r_35 : r_35 = 0 ∨ r_35 = 1 := hw9
        clear hB9 hz9 hk9 hvm9 ht9 hw9
        generalize H1 = H at hP hS ⊢
        refine lv_if_eq (tgt := 74) hx hb dX5_move_55 (by decide) (fun c_36 => ?_) (fun c_36 => ?_)
        · refine lv_iload_n hx hb dX5_move_74 rfl (lv_at hl 2 rfl) ?_
          have hFc := gfree hD hS hA
          refine va_calli (va_runS (As := [.int x1]) (rest := []) ⟨hx, hb, hml, hown, hts⟩ (m_X6_isStore l g H.size ws (x1) hG ) (va_cwS 1 hts (gd_S kw_1107 kw_1231 kw_1207 kw_1230) rfl rfl rfl (by decide +kernel) ⟨Nat.le_of_ble_eq_true rfl, Nat.le_of_ble_eq_true rfl⟩) ⟨gblind, fun U hU hW9 => gmk hU hW9 hP hK hD hex hE hS hFc⟩ rfl rfl hl.1 rfl (lv_room (Nat.le_of_ble_eq_true rfl)) dX5_move_75 ⟨Nat.le_of_ble_eq_true rfl, Nat.le_of_ble_eq_true rfl⟩) hS (fun q _ h => hFc q h) hFc (fun r_37 u9 t9 H1 locs ht9 hvm9 hw9 hB9 hz9 hk9 hS => ?_)
          have hP : va_P (gD g) cl0 ws H1 := by rw [← ht9]; exact hB9.1
          have hz_r_37 : r_37 = 0 ∨ r_37 = 1 := hw9
          clear hB9 hz9 hk9 hvm9 ht9 hw9
          generalize H1 = H at hP hS ⊢
          refine lv_if_eq (tgt := 97) hx hb dX5_move_78 (by decide) (fun c_38 => ?_) (fun c_38 => ?_)
          · refine lv_iload_n hx hb dX5_move_97 rfl (lv_at hl 2 rfl) ?_
            refine lv_sipush (v := 132) hx hb dX5_move_98 (by decide) ?_
            refine lv_icmp_ne (tgt := 131) hx hb dX5_move_101 (by decide) (fun c_39 => ?_) (fun c_39 => ?_)
            · refine lv_iload_n hx hb dX5_move_131 rfl (lv_at hl 2 rfl) ?_
              refine lv_if_eq (tgt := 145) hx hb dX5_move_132 (by decide) (fun c_40 => ?_) (fun c_40 => ?_)
              · exact J_145 ws H locs ls (gE.rf) (gF.rf) hG hP hD hS (lv_sub hl [] rfl)
              · refine lv_aload_n hx hb dX5_move_135 rfl (lv_at hl 1 rfl) ?_
                refine lv_dup hx hb dX5_move_136 rfl ?_
                refine va_get (D := gD g) (ci := 5) (v := .int c19_1) (C := RX5) (T := TX5) (N := 20) hx hb hts inX5 hown hK hP k_1 hk_1 rfl 19 (by decide) (hts _ kw_1045) (fun _ h9 => h9) rfl dX5_move_137 ?_
                refine lv_iconst (v := 1) hx hb dX5_move_140 (by decide) ?_
                refine lv_iadd hx hb dX5_move_141 ?_
                refine lv_topi (fun z_41 ez_41 => ?_)
                have hV9 : okv ws 5 19 (.int z_41) := okv_i
                refine va_put (D := gD g) (ci := 5) (v := .int z_41) (ty := .int) (C := RX5) (T := TX5) (N := 20) hx hb hts inX5 tyX5 tyX5_ok nmX5 hown hK hP hD hS k_1 hk_1 rfl 19 (by decide) (hts _ kw_1045) (fun _ h9 => h9) rfl (by decide +kernel) rfl rfl (Nat.le_of_ble_eq_true rfl) dX5_move_142 (fun H locs hP hD hS => ?_)
                have hi_42 : invX5 g ws h0 [va_rf v0_1, .ref r1_1, .ref r2_1, .int c3_1, .ref r4_1, .int c5_1, .ref r6_1, .int c7_1, .ref r8_1, .ref r9_1, .ref r10_1, .int c11_1, .ref b_2, .int c13_1, .int c14_1, .int c15_1, .long l16_1, .int c17_1, .int c18_1, .int z_41] := ⟨v0_1, r1_1, (n1_1), r2_1, (n2_1), (c3_1), r4_1, (n4_1), (c5_1), r6_1, (n6_1), (c7_1), r8_1, (n8_1), r9_1, (n9_1), r10_1, (n10_1), (c11_1), (some b_2), (c13_1), (c14_1), (c15_1), (l16_1), (c17_1), (c18_1), (z_41), rfl, o_v0_1, F_v0_1, a_r1_1, f3_1, a_r2_1, f5_1, a_r4_1, f7_1, a_r6_1, f9_1, a_r8_1, f11_1, a_r9_1, f13_1, a_r10_1, f15_1, (fun b h9 => by cases h9; exact o_b_2), f17_1, f18_1, f19_1, f20_1, f21_1, f22_1, f23_1, f24_1, f25_1, f26_1, f27_1, f28_1, f29_1, f30_1, f31_1, trivial⟩
                obtain ⟨ws_43, e_ws_43⟩ : ∃ z, z = ws.set k_1 (h0, .inr (5, [va_rf v0_1, .ref r1_1, .ref r2_1, .int c3_1, .ref r4_1, .int c5_1, .ref r6_1, .int c7_1, .ref r8_1, .ref r9_1, .ref r10_1, .int c11_1, .ref b_2, .int c13_1, .int c14_1, .int c15_1, .long l16_1, .int c17_1, .int c18_1, .int z_41])) := ⟨_, rfl⟩
                have hP : va_P (gD g) cl0 ws_43 H := by rw [e_ws_43]; exact hP
                have hD : va_D A ws_43 := by rw [e_ws_43]; exact hD
                have E_44 : gE ws ws_43 := gE_set e_ws_43 hk_1 (cw_o (fi := 19) (v := .int z_41) rfl (by decide))
                have hG : Good g ws_43 := Good_set (fi := 19) (v := .int z_41) e_ws_43 hk_1 E_44 rfl hV9 hG (ivX5 hi_42)
                have Fr_45 : gF [(5, 19)] [] (some h0) ws ws_43 := gF_put (fi := 19) (v := .int z_41) e_ws_43 hk_1 rfl (by decide)
                have hkN := gset_self e_ws_43 hk_1
                have hk_1 := hkN
                have o_h0 := E_44.1 _ _ o_h0
                have o_v0_1 : ∀ b, v0_1 = some b → gC ws_43 b 9 := fun b h => E_44.1 _ _ (o_v0_1 b h)
                have F_v0_1 : ∀ b, v0_1 = some b → full ws_43 b := fun b h => (F_v0_1 b h).mo E_44
                have a_r1_1 := E_44.1 _ _ a_r1_1
                have a_r2_1 := E_44.1 _ _ a_r2_1
                have a_r4_1 := E_44.1 _ _ a_r4_1
                have a_r6_1 := E_44.1 _ _ a_r6_1
                have a_r8_1 := E_44.1 _ _ a_r8_1
                have a_r9_1 := E_44.1 _ _ a_r9_1
                have a_r10_1 := E_44.1 _ _ a_r10_1
                have o_b_2 := E_44.1 _ _ o_b_2
                exact J_145 ws_43 H locs ls (E_44) ((gF.mo (F' := [(5, 14), (5, 19)]) (C' := [(5, 8), (5, 9)]) (S' := none) Fr_45 (by decide) (fun _ h => absurd h List.not_mem_nil) (Or.inl rfl))) hG hP hD hS (lv_sub hl [] rfl)
            · refine lv_aload_n hx hb dX5_move_104 rfl (lv_at hl 1 rfl) ?_
              refine lv_iload_n hx hb dX5_move_105 rfl (lv_at hl 0 rfl) ?_
              refine lv_aload_n hx hb dX5_move_106 rfl (lv_at hl 1 rfl) ?_
              refine lv_iload_n hx hb dX5_move_107 rfl (lv_at hl 0 rfl) ?_
              have hFc := gfree hD hS hA
              refine va_calll (va_runV (As := [.int r_4]) (rest := [.int r_4, .ref h0]) ⟨hx, hb, hml, hown, hts⟩ (m_X5_localAt l g H.size ws h0 (r_4) hG o_h0) (cwV 1 hts (gd_V kw_1106 kw_1092 kw_1093 kw_398 kw_1091) rfl rfl rfl (by decide +kernel) ⟨Nat.le_of_ble_eq_true rfl, Nat.le_of_ble_eq_true rfl⟩) ⟨gblind, va_recv hK hP (ci := 5) (q0 := k_1) rfl hk_1, fun U hU hW9 => gmk hU hW9 hP hK hD hex hE hS hFc⟩ rfl rfl hl.1 rfl (lv_room (Nat.le_of_ble_eq_true rfl)) dX5_move_108 ⟨Nat.le_of_ble_eq_true rfl, Nat.le_of_ble_eq_true rfl⟩) hS (fun q _ h => hFc q h) hFc (fun r_46 ws_47 t9 H1 locs ht9 hvm9 hw9 hB9 hz9 hk9 hS => ?_)
              obtain ⟨E_48, Fr_49, hG, hP1, hD1⟩ := hB9
              have hP : va_P (gD g) cl0 ws_47 H1 := by rw [← ht9]; exact hP1
              have hD : va_D A ws_47 := hD1.weaken (fun _ _ _ h => hFc _ h)
              clear hP1 hD1 hz9 hk9 hvm9 ht9 hw9
              generalize H1 = H at hP hS ⊢
              have aa_52 := a_r1_1
              have aa_53 := a_r2_1
              have aa_54 := a_r4_1
              have aa_55 := a_r6_1
              have aa_56 := a_r8_1
              have aa_57 := a_r9_1
              have aa_58 := a_r10_1
              have o_h0 := E_48.1 _ _ o_h0
              obtain ⟨z_59, ez_59⟩ : ∃ y : Int32, (r_46 : Int64).toInt32 = y := ⟨_, rfl⟩
              refine lv_l2i (v := z_59) hx hb dX5_move_111 ez_59 ?_
              refine lv_aload_n hx hb dX5_move_112 rfl (lv_at hl 1 rfl) ?_
              obtain ⟨fs9, hk_60, hq_60⟩ := ((gF.a (F' := [(5, 19)]) Fr_49 (fun _ h => h))) _ _ _ hk_1
              obtain ⟨v0_60, r1_60, n1_60, r2_60, n2_60, c3_60, r4_60, n4_60, c5_60, r6_60, n6_60, c7_60, r8_60, n8_60, r9_60, n9_60, r10_60, n10_60, c11_60, v12_60, c13_60, c14_60, c15_60, l16_60, c17_60, c18_60, c19_60, rfl, o_v0_60, F_v0_60, a_r1_60, f3_60, a_r2_60, f5_60, a_r4_60, f7_60, a_r6_60, f9_60, a_r8_60, f11_60, a_r9_60, f13_60, a_r10_60, f15_60, o_v12_60, f17_60, f18_60, f19_60, f20_60, f21_60, f22_60, f23_60, f24_60, f25_60, f26_60, f27_60, f28_60, f29_60, f30_60, f31_60, -⟩ := (hG.1 _ _ _ _ hk_60).hX5 rfl
              have hn9 := fe_qr (hq_60 12 (by decide))
              subst hn9
              have o_b_2 := o_v12_60 _ rfl
              obtain rfl := fe_i (hq_60 13 (by decide))
              refine va_get (D := gD g) (ci := 5) (v := .ref b_2) (C := RX5) (T := TX5) (N := 20) hx hb hts inX5 hown hK hP k_1 hk_60 rfl 12 (by decide) (hts _ kw_1030) (fun _ h9 => h9) rfl dX5_move_113 ?_
              refine lv_aload_n hx hb dX5_move_116 rfl (lv_at hl 1 rfl) ?_
              refine va_get (D := gD g) (ci := 5) (v := .int c13_1) (C := RX5) (T := TX5) (N := 20) hx hb hts inX5 hown hK hP k_1 hk_60 rfl 13 (by decide) (hts _ kw_1021) (fun _ h9 => h9) rfl dX5_move_117 ?_
              have hFc := gfree hD hS hA
              obtain ⟨k_61, fs_61, hk_61⟩ := gC_of o_b_2
              refine va_calli (va_runV (As := [.int c13_1]) (rest := [.int z_59, .int r_4, .ref h0]) ⟨hx, hb, hml, hown, hts⟩ (m_X8_stepOf l g H.size ws_47 b_2 (c13_1) hG o_b_2) (cwV 1 hts (gd_V kw_1109 kw_1531 kw_1532 kw_782 kw_1530) rfl rfl rfl (by decide +kernel) ⟨Nat.le_of_ble_eq_true rfl, Nat.le_of_ble_eq_true rfl⟩) ⟨gblind, va_recv hK hP (ci := 7) (q0 := k_61) rfl hk_61, fun U hU hW9 => gmk hU hW9 hP hK hD hex hE hS hFc⟩ rfl rfl hl.1 rfl (lv_room (Nat.le_of_ble_eq_true rfl)) dX5_move_120 ⟨Nat.le_of_ble_eq_true rfl, Nat.le_of_ble_eq_true rfl⟩) hS (fun q _ h => hFc q h) hFc (fun r_62 u9 t9 H1 locs ht9 hvm9 hw9 hB9 hz9 hk9 hS => ?_)
              have hP : va_P (gD g) cl0 ws_47 H1 := by rw [← ht9]; exact hB9.1
              clear hB9 hz9 hk9 hvm9 ht9 hw9
              generalize H1 = H at hP hS ⊢
              refine lv_iadd hx hb dX5_move_123 ?_
              refine lv_topi (fun z_63 ez_63 => ?_)
              obtain ⟨z_64, ez_64⟩ : ∃ y : Int64, (z_63 : Int32).toInt64 = y := ⟨_, rfl⟩
              refine lv_i2l (v := z_64) hx hb dX5_move_124 ez_64 ?_
              have hFc := gfree hD hS hA
              refine va_callv (va_runV (As := [.int r_4, .long z_64]) (rest := []) ⟨hx, hb, hml, hown, hts⟩ (m_X5_setLocal l g H.size ws_47 h0 (r_4) (z_64) hG o_h0) (cwV 2 hts (gd_V kw_1108 kw_1151 kw_1152 kw_398 kw_1150) rfl rfl rfl (by decide +kernel) ⟨Nat.le_of_ble_eq_true rfl, Nat.le_of_ble_eq_true rfl⟩) ⟨gblind, va_recv hK hP (ci := 5) (q0 := k_1) rfl hk_60, fun U hU hW9 => gmk hU hW9 hP hK hD hex hE hS hFc⟩ rfl rfl hl.1 rfl (lv_room (Nat.le_of_ble_eq_true rfl)) dX5_move_125 ⟨Nat.le_of_ble_eq_true rfl, Nat.le_of_ble_eq_true rfl⟩) hS (fun q _ h => hFc q h) hFc (fun  ws_65 t9 H1 locs ht9 hvm9 hw9 hB9 hz9 hk9 hS => ?_)
              obtain ⟨E_66, Fr_67, hG, hP1, hD1⟩ := hB9
              have hP : va_P (gD g) cl0 ws_65 H1 := by rw [← ht9]; exact hP1
              have hD : va_D A ws_65 := hD1.weaken (fun _ _ _ h => hFc _ h)
              clear hP1 hD1 hz9 hk9 hvm9 ht9 hw9
              generalize H1 = H at hP hS ⊢
              have aa_70 := a_r1_60
              have aa_71 := a_r2_60
              have aa_72 := a_r4_60
              have aa_73 := a_r6_60
              have aa_74 := a_r8_60
              have aa_75 := a_r9_60
              have aa_76 := a_r10_60
              have o_h0 := E_66.1 _ _ o_h0
              refine lv_goto (tgt := 145) hx hb dX5_move_128 (by decide) ?_
              exact J_145 ws_65 H locs ls ((E_48.tr E_66)) ((gF.tr (gF.mo (F' := [(5, 14), (5, 19)]) (C' := [(5, 8), (5, 9)]) (S' := none) Fr_49 (by decide) (fun _ h => absurd h List.not_mem_nil) (Or.inr rfl)) (gF.mo (F' := [(5, 14), (5, 19)]) (C' := [(5, 8), (5, 9)]) (S' := none) Fr_67 (by decide) (by decide) (Or.inr rfl)))) hG hP hD hS (lv_sub hl [] rfl)
          · refine lv_aload_n hx hb dX5_move_81 rfl (lv_at hl 1 rfl) ?_
            refine lv_iload_n hx hb dX5_move_82 rfl (lv_at hl 0 rfl) ?_
            refine lv_aload_n hx hb dX5_move_83 rfl (lv_at hl 1 rfl) ?_
            refine lv_iload_n hx hb dX5_move_84 rfl (lv_at hl 2 rfl) ?_
            have hFc := gfree hD hS hA
            refine va_calli (va_runS (As := [.int x1]) (rest := [.ref h0, .int r_4, .ref h0]) ⟨hx, hb, hml, hown, hts⟩ (m_X6_takes l g H.size ws (x1) hG ) (va_cwS 1 hts (gd_S kw_1014 kw_1255 kw_1207 kw_1254) rfl rfl rfl (by decide +kernel) ⟨Nat.le_of_ble_eq_true rfl, Nat.le_of_ble_eq_true rfl⟩) ⟨gblind, fun U hU hW9 => gmk hU hW9 hP hK hD hex hE hS hFc⟩ rfl rfl hl.1 rfl (lv_room (Nat.le_of_ble_eq_true rfl)) dX5_move_85 ⟨Nat.le_of_ble_eq_true rfl, Nat.le_of_ble_eq_true rfl⟩) hS (fun q _ h => hFc q h) hFc (fun r_77 u9 t9 H1 locs ht9 hvm9 hw9 hB9 hz9 hk9 hS => ?_)
            have hP : va_P (gD g) cl0 ws H1 := by rw [← ht9]; exact hB9.1
            clear hB9 hz9 hk9 hvm9 ht9 hw9
            generalize H1 = H at hP hS ⊢
            have hFc := gfree hD hS hA
            refine va_calll (va_runV (As := [.int r_77]) (rest := [.int r_4, .ref h0]) ⟨hx, hb, hml, hown, hts⟩ (m_X5_pop_ l g H.size ws h0 (r_77) hG o_h0) (cwV 1 hts (gd_V kw_1015 kw_1127 kw_1128 kw_398 kw_1126) rfl rfl rfl (by decide +kernel) ⟨Nat.le_of_ble_eq_true rfl, Nat.le_of_ble_eq_true rfl⟩) ⟨gblind, va_recv hK hP (ci := 5) (q0 := k_1) rfl hk_1, fun U hU hW9 => gmk hU hW9 hP hK hD hex hE hS hFc⟩ rfl rfl hl.1 rfl (lv_room (Nat.le_of_ble_eq_true rfl)) dX5_move_88 ⟨Nat.le_of_ble_eq_true rfl, Nat.le_of_ble_eq_true rfl⟩) hS (fun q _ h => hFc q h) hFc (fun r_78 ws_79 t9 H1 locs ht9 hvm9 hw9 hB9 hz9 hk9 hS => ?_)
            obtain ⟨E_80, Fr_81, hG, hP1, hD1⟩ := hB9
            have hP : va_P (gD g) cl0 ws_79 H1 := by rw [← ht9]; exact hP1
            have hD : va_D A ws_79 := hD1.weaken (fun _ _ _ h => hFc _ h)
            clear hP1 hD1 hz9 hk9 hvm9 ht9 hw9
            generalize H1 = H at hP hS ⊢
            have aa_84 := a_r1_1
            have aa_85 := a_r2_1
            have aa_86 := a_r4_1
            have aa_87 := a_r6_1
            have aa_88 := a_r8_1
            have aa_89 := a_r9_1
            have aa_90 := a_r10_1
            have o_h0 := E_80.1 _ _ o_h0
            have hFc := gfree hD hS hA
            obtain ⟨k_91, fs_91, hk_91⟩ := gC_of o_h0
            refine va_callv (va_runV (As := [.int r_4, .long r_78]) (rest := []) ⟨hx, hb, hml, hown, hts⟩ (m_X5_setLocal l g H.size ws_79 h0 (r_4) (r_78) hG o_h0) (cwV 2 hts (gd_V kw_1108 kw_1151 kw_1152 kw_398 kw_1150) rfl rfl rfl (by decide +kernel) ⟨Nat.le_of_ble_eq_true rfl, Nat.le_of_ble_eq_true rfl⟩) ⟨gblind, va_recv hK hP (ci := 5) (q0 := k_91) rfl hk_91, fun U hU hW9 => gmk hU hW9 hP hK hD hex hE hS hFc⟩ rfl rfl hl.1 rfl (lv_room (Nat.le_of_ble_eq_true rfl)) dX5_move_91 ⟨Nat.le_of_ble_eq_true rfl, Nat.le_of_ble_eq_true rfl⟩) hS (fun q _ h => hFc q h) hFc (fun  ws_92 t9 H1 locs ht9 hvm9 hw9 hB9 hz9 hk9 hS => ?_)
            obtain ⟨E_93, Fr_94, hG, hP1, hD1⟩ := hB9
            have hP : va_P (gD g) cl0 ws_92 H1 := by rw [← ht9]; exact hP1
            have hD : va_D A ws_92 := hD1.weaken (fun _ _ _ h => hFc _ h)
            clear hP1 hD1 hz9 hk9 hvm9 ht9 hw9
            generalize H1 = H at hP hS ⊢
            have o_h0 := E_93.1 _ _ o_h0
            refine lv_goto (tgt := 145) hx hb dX5_move_94 (by decide) ?_
            exact J_145 ws_92 H locs ls ((E_80.tr E_93)) ((gF.tr (gF.mo (F' := [(5, 14), (5, 19)]) (C' := [(5, 8), (5, 9)]) (S' := none) Fr_81 (fun _ h => h) (fun _ h => absurd h List.not_mem_nil) (Or.inr rfl)) (gF.mo (F' := [(5, 14), (5, 19)]) (C' := [(5, 8), (5, 9)]) (S' := none) Fr_94 (by decide) (by decide) (Or.inr rfl)))) hG hP hD hS (lv_sub hl [] rfl)
        · refine lv_aload_n hx hb dX5_move_58 rfl (lv_at hl 1 rfl) ?_
          refine lv_iload_n hx hb dX5_move_59 rfl (lv_at hl 2 rfl) ?_
          have hFc := gfree hD hS hA
          refine va_calli (va_runS (As := [.int x1]) (rest := [.ref h0]) ⟨hx, hb, hml, hown, hts⟩ (m_X6_gives l g H.size ws (x1) hG ) (va_cwS 1 hts (gd_S kw_1018 kw_1216 kw_1207 kw_1215) rfl rfl rfl (by decide +kernel) ⟨Nat.le_of_ble_eq_true rfl, Nat.le_of_ble_eq_true rfl⟩) ⟨gblind, fun U hU hW9 => gmk hU hW9 hP hK hD hex hE hS hFc⟩ rfl rfl hl.1 rfl (lv_room (Nat.le_of_ble_eq_true rfl)) dX5_move_60 ⟨Nat.le_of_ble_eq_true rfl, Nat.le_of_ble_eq_true rfl⟩) hS (fun q _ h => hFc q h) hFc (fun r_97 u9 t9 H1 locs ht9 hvm9 hw9 hB9 hz9 hk9 hS => ?_)
          have hP : va_P (gD g) cl0 ws H1 := by rw [← ht9]; exact hB9.1
          clear hB9 hz9 hk9 hvm9 ht9 hw9
          generalize H1 = H at hP hS ⊢
          refine lv_aload_n hx hb dX5_move_63 rfl (lv_at hl 1 rfl) ?_
          refine lv_iload_n hx hb dX5_move_64 rfl (lv_at hl 0 rfl) ?_
          have hFc := gfree hD hS hA
          refine va_calll (va_runV (As := [.int r_4]) (rest := [.int r_97, .ref h0]) ⟨hx, hb, hml, hown, hts⟩ (m_X5_localAt l g H.size ws h0 (r_4) hG o_h0) (cwV 1 hts (gd_V kw_1106 kw_1092 kw_1093 kw_398 kw_1091) rfl rfl rfl (by decide +kernel) ⟨Nat.le_of_ble_eq_true rfl, Nat.le_of_ble_eq_true rfl⟩) ⟨gblind, va_recv hK hP (ci := 5) (q0 := k_1) rfl hk_1, fun U hU hW9 => gmk hU hW9 hP hK hD hex hE hS hFc⟩ rfl rfl hl.1 rfl (lv_room (Nat.le_of_ble_eq_true rfl)) dX5_move_65 ⟨Nat.le_of_ble_eq_true rfl, Nat.le_of_ble_eq_true rfl⟩) hS (fun q _ h => hFc q h) hFc (fun r_98 ws_99 t9 H1 locs ht9 hvm9 hw9 hB9 hz9 hk9 hS => ?_)
          obtain ⟨E_100, Fr_101, hG, hP1, hD1⟩ := hB9
          have hP : va_P (gD g) cl0 ws_99 H1 := by rw [← ht9]; exact hP1
          have hD : va_D A ws_99 := hD1.weaken (fun _ _ _ h => hFc _ h)
          clear hP1 hD1 hz9 hk9 hvm9 ht9 hw9
          generalize H1 = H at hP hS ⊢
          have aa_104 := a_r1_1
          have aa_105 := a_r2_1
          have aa_106 := a_r4_1
          have aa_107 := a_r6_1
          have aa_108 := a_r8_1
          have aa_109 := a_r9_1
          have aa_110 := a_r10_1
          have o_h0 := E_100.1 _ _ o_h0
          have hFc := gfree hD hS hA
          obtain ⟨k_111, fs_111, hk_111⟩ := gC_of o_h0
          refine va_callv (va_runV (As := [.int r_97, .long r_98]) (rest := []) ⟨hx, hb, hml, hown, hts⟩ (m_X5_push_ l g H.size ws_99 h0 (r_97) (r_98) hG o_h0) (cwV 2 hts (gd_V kw_1020 kw_1133 kw_1134 kw_398 kw_1132) rfl rfl rfl (by decide +kernel) ⟨Nat.le_of_ble_eq_true rfl, Nat.le_of_ble_eq_true rfl⟩) ⟨gblind, va_recv hK hP (ci := 5) (q0 := k_111) rfl hk_111, fun U hU hW9 => gmk hU hW9 hP hK hD hex hE hS hFc⟩ rfl rfl hl.1 rfl (lv_room (Nat.le_of_ble_eq_true rfl)) dX5_move_68 ⟨Nat.le_of_ble_eq_true rfl, Nat.le_of_ble_eq_true rfl⟩) hS (fun q _ h => hFc q h) hFc (fun  ws_112 t9 H1 locs ht9 hvm9 hw9 hB9 hz9 hk9 hS => ?_)
          obtain ⟨E_113, Fr_114, hG, hP1, hD1⟩ := hB9
          have hP : va_P (gD g) cl0 ws_112 H1 := by rw [← ht9]; exact hP1
          have hD : va_D A ws_112 := hD1.weaken (fun _ _ _ h => hFc _ h)
          clear hP1 hD1 hz9 hk9 hvm9 ht9 hw9
          generalize H1 = H at hP hS ⊢
          have o_h0 := E_113.1 _ _ o_h0
          refine lv_goto (tgt := 145) hx hb dX5_move_71 (by decide) ?_
          exact J_145 ws_112 H locs ls ((E_100.tr E_113)) ((gF.tr (gF.mo (F' := [(5, 14), (5, 19)]) (C' := [(5, 8), (5, 9)]) (S' := none) Fr_101 (by decide) (fun _ h => absurd h List.not_mem_nil) (Or.inr rfl)) (gF.mo (F' := [(5, 14), (5, 19)]) (C' := [(5, 8), (5, 9)]) (S' := none) Fr_114 (fun _ h => h) (by decide) (Or.inr rfl)))) hG hP hD hS (lv_sub hl [] rfl)
      · exact J_29  H locs ls  hP hD hS (lv_sub hl [1, 2] rfl)
set_option maxHeartbeats 1000000 in
set_option maxRecDepth 100000 in
theorem m_X5_openFrame (l : Launch) (g : Gm) (sz : Nat) (ws : va_W) (h0 : Nat) (x1 : Int32) (hG : Good g ws) (o_h0 : gC ws h0 5) (nn_h0_0 : gN ws h0 0) (tk0 : frB g ws h0) (tk1 : inU ws h0 x1) (tk2 : swU ws h0) : Met l yX5_openFrame (wt yX5_openFrame cX5_openFrame 2 none) ({ frames := 1, cells := 0, slots := 0, locals := 22 }) (va_Pc [.ref h0, .int x1] (st_G g sz ws)) (va_Qv (fun (u9 : va_W) => (True) ∧ (gN u9 h0 0) ∧ (gN u9 h0 12) ∧ (frP g u9 h0) ∧ (swU u9 h0) ∧ (swC u9 h0)) (gQ1 g [(5, 12), (5, 13), (5, 14)] [(5, 10)] none (va_A ws sz) ws) (va_A ws sz)) (0) (0) (va_A ws sz) := by
  refine Met.ofW (cc := cX5_openFrame) (maxL := 2) (ret := none) (by decide) rfl ?_
  intro p e s m args below meth c s₁ B hml hv
  obtain ⟨rfl, hsz, hP, hK, hD0, hex, hE⟩ := hv
  have hx := B.exec
  have hb := B.bytes
  have hr := B.returns
  have hts0 := atoms_spec (ws := wt yX5_openFrame cX5_openFrame 2 none) B.pre
  have hts : ∀ w ∈ tb, w.before _ s = true := fun w h => hts0 w (List.mem_cons_of_mem _ h)
  have hown : s.vm.findClass RX5 = some m.cls := findClass_of_methodNamed B.named
  subst hsz
  have hD := hD0.self (sz := s.heap.size)
  generalize hAe : va_A ws s.heap.size = A at hD hE ⊢
  have hA : ∀ q : Nat, s.heap.size ≤ q → A q := fun q h => by rw [← hAe]; exact Or.inr h
  have hS : va_S A s.heap s.heap [] := va_S.rf
  have hl := lv_entry ([.ref h0, .int x1]) (n := 2) (Nat.le_of_ble_eq_true rfl)
  rw [lg_entry_eq]
  generalize (lg_sl ([.ref h0, .int x1]) ++ List.replicate (2 - (lg_sl ([.ref h0, .int x1])).length) Slot.unset).toArray = ls at hl ⊢
  have hl : lv_has ls 2 [(0, .ref h0), (1, .int x1)] := hl
  obtain ⟨k_1, fs9, hk_1⟩ := gC_of o_h0
  obtain ⟨v0_1, r1_1, n1_1, r2_1, n2_1, c3_1, r4_1, n4_1, c5_1, r6_1, n6_1, c7_1, r8_1, n8_1, r9_1, n9_1, r10_1, n10_1, c11_1, v12_1, c13_1, c14_1, c15_1, l16_1, c17_1, c18_1, c19_1, rfl, o_v0_1, F_v0_1, a_r1_1, f3_1, a_r2_1, f5_1, a_r4_1, f7_1, a_r6_1, f9_1, a_r8_1, f11_1, a_r9_1, f13_1, a_r10_1, f15_1, o_v12_1, f17_1, f18_1, f19_1, f20_1, f21_1, f22_1, f23_1, f24_1, f25_1, f26_1, f27_1, f28_1, f29_1, f30_1, f31_1, -⟩ := (hG.1 _ _ _ _ hk_1).hX5 rfl
  obtain ⟨b_2, hn9⟩ := nn_h0_0 _ _ _ hk_1
  have hn9 := fe_qr hn9
  subst hn9
  have o_b_2 := o_v0_1 _ rfl
  have F_b_2 := F_v0_1 _ rfl
  refine lv_aload_n hx hb dX5_openFrame_0 rfl (lv_at hl 0 rfl) ?_
  refine lv_aload_n hx hb dX5_openFrame_1 rfl (lv_at hl 0 rfl) ?_
  refine va_get (D := gD g) (ci := 5) (v := .ref b_2) (C := RX5) (T := TX5) (N := 20) hx hb hts inX5 hown hK hP k_1 hk_1 rfl 0 (by decide) (hts _ kw_1027) (fun _ h9 => h9) rfl dX5_openFrame_2 ?_
  refine lv_iload_n hx hb dX5_openFrame_5 rfl (lv_at hl 1 rfl) ?_
  have hFc := gfree hD hS hA
  obtain ⟨k_3, fs_3, hk_3⟩ := gC_of o_b_2
  refine va_callq (va_runV (As := [.int x1]) (rest := [.ref h0]) ⟨hx, hb, hml, hown, hts⟩ (m_X10_rowAt l g s.heap.size ws b_2 (x1) hG o_b_2) (cwV 1 hts (gd_V kw_1029 kw_70 kw_71 kw_34 kw_69) rfl rfl rfl (by decide +kernel) ⟨Nat.le_of_ble_eq_true rfl, Nat.le_of_ble_eq_true rfl⟩) ⟨gblind, va_recv hK hP (ci := 9) (q0 := k_3) rfl hk_3, fun U hU hW9 => gmk hU hW9 hP hK hD hex hE hS hFc⟩ rfl rfl hl.1 rfl (lv_room (Nat.le_of_ble_eq_true rfl)) dX5_openFrame_6 ⟨Nat.le_of_ble_eq_true rfl, Nat.le_of_ble_eq_true rfl⟩) hS (fun q _ h => hFc q h) hFc (fun r_4 u9 t9 H1 locs ht9 hvm9 hw9 hB9 hz9 hk9 hS => ?_)
  have hP : va_P (gD g) cl0 ws H1 := by rw [← ht9]; exact hB9.1
  obtain ⟨o_r_4, h_r_4⟩ := id hw9
  clear hB9 hz9 hk9 hvm9 ht9 hw9
  generalize H1 = H at hP hS ⊢
  have hM9 : inM ws b_2 _ := inU_of hD hk_1 rfl tk1
  have hr9 := h_r_4
  obtain ⟨b_5, hb9⟩ := h_r_4.2 F_b_2 hM9
  subst hb9
  have o_b_5 := o_r_4 _ rfl
  have sw_6 : swR ws b_5 := swU_at hD hk_1 (u := b_2) rfl tk2 (h_r_4.1 _ rfl).2
  have hV9 : okv ws 5 12 (.ref b_5) := (okv_o hD o_b_5)
  refine va_put (D := gD g) (ci := 5) (v := .ref b_5) (ty := (.object "CodeFoundry$Row")) (C := RX5) (T := TX5) (N := 20) hx hb hts inX5 tyX5 tyX5_ok nmX5 hown hK hP hD hS k_1 hk_1 rfl 12 (by decide) (hts _ kw_1030) (fun _ h9 => h9) rfl (by decide +kernel) rfl rfl (Nat.le_of_ble_eq_true rfl) dX5_openFrame_9 (fun H locs hP hD hS => ?_)
  have hi_7 : invX5 g ws h0 [.ref b_2, .ref r1_1, .ref r2_1, .int c3_1, .ref r4_1, .int c5_1, .ref r6_1, .int c7_1, .ref r8_1, .ref r9_1, .ref r10_1, .int c11_1, .ref b_5, .int c13_1, .int c14_1, .int c15_1, .long l16_1, .int c17_1, .int c18_1, .int c19_1] := ⟨(some b_2), r1_1, (n1_1), r2_1, (n2_1), (c3_1), r4_1, (n4_1), (c5_1), r6_1, (n6_1), (c7_1), r8_1, (n8_1), r9_1, (n9_1), r10_1, (n10_1), (c11_1), (some b_5), (c13_1), (c14_1), (c15_1), (l16_1), (c17_1), (c18_1), (c19_1), rfl, (fun b h9 => by cases h9; exact o_b_2), (fun b h9 => by cases h9; exact F_b_2), a_r1_1, f3_1, a_r2_1, f5_1, a_r4_1, f7_1, a_r6_1, f9_1, a_r8_1, f11_1, a_r9_1, f13_1, a_r10_1, f15_1, (fun b h9 => by cases h9; exact o_b_5), f17_1, f18_1, f19_1, f20_1, f21_1, f22_1, f23_1, f24_1, f25_1, f26_1, f27_1, f28_1, f29_1, f30_1, f31_1, trivial⟩
  obtain ⟨ws_8, e_ws_8⟩ : ∃ z, z = ws.set k_1 (h0, .inr (5, [.ref b_2, .ref r1_1, .ref r2_1, .int c3_1, .ref r4_1, .int c5_1, .ref r6_1, .int c7_1, .ref r8_1, .ref r9_1, .ref r10_1, .int c11_1, .ref b_5, .int c13_1, .int c14_1, .int c15_1, .long l16_1, .int c17_1, .int c18_1, .int c19_1])) := ⟨_, rfl⟩
  have hP : va_P (gD g) cl0 ws_8 H := by rw [e_ws_8]; exact hP
  have hD : va_D A ws_8 := by rw [e_ws_8]; exact hD
  have E_9 : gE ws ws_8 := gE_set e_ws_8 hk_1 (cw_o (fi := 12) (v := .ref b_5) rfl (by decide))
  have hG : Good g ws_8 := Good_set (fi := 12) (v := .ref b_5) e_ws_8 hk_1 E_9 rfl hV9 hG (ivX5 hi_7)
  have Fr_10 : gF [(5, 12)] [] (some h0) ws ws_8 := gF_put (fi := 12) (v := .ref b_5) e_ws_8 hk_1 rfl (by decide)
  have hkN := gset_self e_ws_8 hk_1
  have hk_1 := hkN
  have o_h0 := E_9.1 _ _ o_h0
  have a_r1_1 := E_9.1 _ _ a_r1_1
  have a_r2_1 := E_9.1 _ _ a_r2_1
  have a_r4_1 := E_9.1 _ _ a_r4_1
  have a_r6_1 := E_9.1 _ _ a_r6_1
  have a_r8_1 := E_9.1 _ _ a_r8_1
  have a_r9_1 := E_9.1 _ _ a_r9_1
  have a_r10_1 := E_9.1 _ _ a_r10_1
  have o_b_2 := E_9.1 _ _ o_b_2
  have F_b_2 := F_b_2.mo E_9
  have o_b_5 := E_9.1 _ _ o_b_5
  have tq_11 : swC ws_8 h0 := ⟨_, b_5, _, hk_1, rfl, swR_mo ((gF.mo (F' := [(5, 12)]) (C' := []) (S' := none) Fr_10 (fun _ h => h) (fun _ h => h) (Or.inl rfl))) (by decide) (by decide) (by decide) (by decide) (by decide) (by decide) (by decide) (by decide) sw_6⟩
  refine lv_aload_n hx hb dX5_openFrame_12 rfl (lv_at hl 0 rfl) ?_
  refine lv_iconst (v := 0) hx hb dX5_openFrame_13 (by decide) ?_
  have hV9 : okv ws_8 5 13 (.int 0) := okv_i
  refine va_put (D := gD g) (ci := 5) (v := .int 0) (ty := .int) (C := RX5) (T := TX5) (N := 20) hx hb hts inX5 tyX5 tyX5_ok nmX5 hown hK hP hD hS k_1 hk_1 rfl 13 (by decide) (hts _ kw_1021) (fun _ h9 => h9) rfl (by decide +kernel) rfl rfl (Nat.le_of_ble_eq_true rfl) dX5_openFrame_14 (fun H locs hP hD hS => ?_)
  have hi_12 : invX5 g ws_8 h0 [.ref b_2, .ref r1_1, .ref r2_1, .int c3_1, .ref r4_1, .int c5_1, .ref r6_1, .int c7_1, .ref r8_1, .ref r9_1, .ref r10_1, .int c11_1, .ref b_5, .int 0, .int c14_1, .int c15_1, .long l16_1, .int c17_1, .int c18_1, .int c19_1] := ⟨(some b_2), r1_1, (n1_1), r2_1, (n2_1), (c3_1), r4_1, (n4_1), (c5_1), r6_1, (n6_1), (c7_1), r8_1, (n8_1), r9_1, (n9_1), r10_1, (n10_1), (c11_1), (some b_5), (0), (c14_1), (c15_1), (l16_1), (c17_1), (c18_1), (c19_1), rfl, (fun b h9 => by cases h9; exact o_b_2), (fun b h9 => by cases h9; exact F_b_2), a_r1_1, f3_1, a_r2_1, f5_1, a_r4_1, f7_1, a_r6_1, f9_1, a_r8_1, f11_1, a_r9_1, f13_1, a_r10_1, f15_1, (fun b h9 => by cases h9; exact o_b_5), f17_1, f18_1, f19_1, f20_1, f21_1, f22_1, f23_1, f24_1, f25_1, f26_1, f27_1, f28_1, f29_1, f30_1, f31_1, trivial⟩
  obtain ⟨ws_13, e_ws_13⟩ : ∃ z, z = ws_8.set k_1 (h0, .inr (5, [.ref b_2, .ref r1_1, .ref r2_1, .int c3_1, .ref r4_1, .int c5_1, .ref r6_1, .int c7_1, .ref r8_1, .ref r9_1, .ref r10_1, .int c11_1, .ref b_5, .int 0, .int c14_1, .int c15_1, .long l16_1, .int c17_1, .int c18_1, .int c19_1])) := ⟨_, rfl⟩
  have hP : va_P (gD g) cl0 ws_13 H := by rw [e_ws_13]; exact hP
  have hD : va_D A ws_13 := by rw [e_ws_13]; exact hD
  have E_14 : gE ws_8 ws_13 := gE_set e_ws_13 hk_1 (cw_o (fi := 13) (v := .int 0) rfl (by decide))
  have hG : Good g ws_13 := Good_set (fi := 13) (v := .int 0) e_ws_13 hk_1 E_14 rfl hV9 hG (ivX5 hi_12)
  have Fr_15 : gF [(5, 13)] [] (some h0) ws_8 ws_13 := gF_put (fi := 13) (v := .int 0) e_ws_13 hk_1 rfl (by decide)
  have hkN := gset_self e_ws_13 hk_1
  have hk_1 := hkN
  have o_h0 := E_14.1 _ _ o_h0
  have a_r1_1 := E_14.1 _ _ a_r1_1
  have a_r2_1 := E_14.1 _ _ a_r2_1
  have a_r4_1 := E_14.1 _ _ a_r4_1
  have a_r6_1 := E_14.1 _ _ a_r6_1
  have a_r8_1 := E_14.1 _ _ a_r8_1
  have a_r9_1 := E_14.1 _ _ a_r9_1
  have a_r10_1 := E_14.1 _ _ a_r10_1
  have o_b_2 := E_14.1 _ _ o_b_2
  have F_b_2 := F_b_2.mo E_14
  have o_b_5 := E_14.1 _ _ o_b_5
  refine lv_aload_n hx hb dX5_openFrame_17 rfl (lv_at hl 0 rfl) ?_
  refine lv_iconst (v := 0) hx hb dX5_openFrame_18 (by decide) ?_
  have hV9 : okv ws_13 5 14 (.int 0) := okv_i
  refine va_put (D := gD g) (ci := 5) (v := .int 0) (ty := .int) (C := RX5) (T := TX5) (N := 20) hx hb hts inX5 tyX5 tyX5_ok nmX5 hown hK hP hD hS k_1 hk_1 rfl 14 (by decide) (hts _ kw_1031) (fun _ h9 => h9) rfl (by decide +kernel) rfl rfl (Nat.le_of_ble_eq_true rfl) dX5_openFrame_19 (fun H locs hP hD hS => ?_)
  have hi_16 : invX5 g ws_13 h0 [.ref b_2, .ref r1_1, .ref r2_1, .int c3_1, .ref r4_1, .int c5_1, .ref r6_1, .int c7_1, .ref r8_1, .ref r9_1, .ref r10_1, .int c11_1, .ref b_5, .int 0, .int 0, .int c15_1, .long l16_1, .int c17_1, .int c18_1, .int c19_1] := ⟨(some b_2), r1_1, (n1_1), r2_1, (n2_1), (c3_1), r4_1, (n4_1), (c5_1), r6_1, (n6_1), (c7_1), r8_1, (n8_1), r9_1, (n9_1), r10_1, (n10_1), (c11_1), (some b_5), (0), (0), (c15_1), (l16_1), (c17_1), (c18_1), (c19_1), rfl, (fun b h9 => by cases h9; exact o_b_2), (fun b h9 => by cases h9; exact F_b_2), a_r1_1, f3_1, a_r2_1, f5_1, a_r4_1, f7_1, a_r6_1, f9_1, a_r8_1, f11_1, a_r9_1, f13_1, a_r10_1, f15_1, (fun b h9 => by cases h9; exact o_b_5), f17_1, f18_1, f19_1, f20_1, f21_1, f22_1, f23_1, f24_1, f25_1, f26_1, f27_1, f28_1, f29_1, f30_1, f31_1, trivial⟩
  obtain ⟨ws_17, e_ws_17⟩ : ∃ z, z = ws_13.set k_1 (h0, .inr (5, [.ref b_2, .ref r1_1, .ref r2_1, .int c3_1, .ref r4_1, .int c5_1, .ref r6_1, .int c7_1, .ref r8_1, .ref r9_1, .ref r10_1, .int c11_1, .ref b_5, .int 0, .int 0, .int c15_1, .long l16_1, .int c17_1, .int c18_1, .int c19_1])) := ⟨_, rfl⟩
  have hP : va_P (gD g) cl0 ws_17 H := by rw [e_ws_17]; exact hP
  have hD : va_D A ws_17 := by rw [e_ws_17]; exact hD
  have E_18 : gE ws_13 ws_17 := gE_set e_ws_17 hk_1 (cw_o (fi := 14) (v := .int 0) rfl (by decide))
  have hG : Good g ws_17 := Good_set (fi := 14) (v := .int 0) e_ws_17 hk_1 E_18 rfl hV9 hG (ivX5 hi_16)
  have Fr_19 : gF [(5, 14)] [] (some h0) ws_13 ws_17 := gF_put (fi := 14) (v := .int 0) e_ws_17 hk_1 rfl (by decide)
  have hkN := gset_self e_ws_17 hk_1
  have hk_1 := hkN
  have o_h0 := E_18.1 _ _ o_h0
  have a_r1_1 := E_18.1 _ _ a_r1_1
  have a_r2_1 := E_18.1 _ _ a_r2_1
  have a_r4_1 := E_18.1 _ _ a_r4_1
  have a_r6_1 := E_18.1 _ _ a_r6_1
  have a_r8_1 := E_18.1 _ _ a_r8_1
  have a_r9_1 := E_18.1 _ _ a_r9_1
  have a_r10_1 := E_18.1 _ _ a_r10_1
  have o_b_2 := E_18.1 _ _ o_b_2
  have F_b_2 := F_b_2.mo E_18
  have o_b_5 := E_18.1 _ _ o_b_5
  refine lv_aload_n hx hb dX5_openFrame_22 rfl (lv_at hl 0 rfl) ?_
  refine lv_iconst (v := 0) hx hb dX5_openFrame_23 (by decide) ?_
  refine lv_iload_n hx hb dX5_openFrame_24 rfl (lv_at hl 1 rfl) ?_
  have tq_20 : frB g ws_17 h0 := frB_mo ((gF.tr (gF.mo (F' := [(5, 12), (5, 13), (5, 14)]) (C' := []) (S' := none) Fr_10 (by decide) (fun _ h => h) (Or.inl rfl)) (gF.tr (gF.mo (F' := [(5, 12), (5, 13), (5, 14)]) (C' := []) (S' := none) Fr_15 (by decide) (fun _ h => h) (Or.inl rfl)) (gF.mo (F' := [(5, 12), (5, 13), (5, 14)]) (C' := []) (S' := none) Fr_19 (by decide) (fun _ h => h) (Or.inl rfl))))) (by decide) (by decide) (by decide) (by decide) (by decide) tk0
  have tq_21 : inU ws_17 h0 x1 := inU_mo ((gF.tr (gF.mo (F' := [(5, 12), (5, 13), (5, 14)]) (C' := []) (S' := none) Fr_10 (by decide) (fun _ h => h) (Or.inl rfl)) (gF.tr (gF.mo (F' := [(5, 12), (5, 13), (5, 14)]) (C' := []) (S' := none) Fr_15 (by decide) (fun _ h => h) (Or.inl rfl)) (gF.mo (F' := [(5, 12), (5, 13), (5, 14)]) (C' := []) (S' := none) Fr_19 (by decide) (fun _ h => h) (Or.inl rfl))))) (by decide) (by decide) tk1
  have hFc := gfree hD hS hA
  refine va_callv (va_runV (As := [.int 0, .int x1]) (rest := []) ⟨hx, hb, hml, hown, hts⟩ (m_X5_setFrame l g H.size ws_17 h0 (0) (x1) hG o_h0 (by have e0 : (0 : Int32).toInt = 0 := (by decide); omega)) (cwV 2 hts (gd_V kw_1048 kw_1148 kw_1149 kw_398 kw_1147) rfl rfl rfl (by decide +kernel) ⟨Nat.le_of_ble_eq_true rfl, Nat.le_of_ble_eq_true rfl⟩) ⟨gblind, va_recv hK hP (ci := 5) (q0 := k_1) rfl hk_1, fun U hU hW9 => gmk hU hW9 hP hK hD hex hE hS hFc⟩ rfl rfl hl.1 rfl (lv_room (Nat.le_of_ble_eq_true rfl)) dX5_openFrame_25 ⟨Nat.le_of_ble_eq_true rfl, Nat.le_of_ble_eq_true rfl⟩) hS (fun q _ h => hFc q h) hFc (fun  ws_22 t9 H1 locs ht9 hvm9 hw9 hB9 hz9 hk9 hS => ?_)
  obtain ⟨E_23, Fr_24, hG, hP1, hD1⟩ := hB9
  have hP : va_P (gD g) cl0 ws_22 H1 := by rw [← ht9]; exact hP1
  have hD : va_D A ws_22 := hD1.weaken (fun _ _ _ h => hFc _ h)
  obtain ⟨hw9, xp_27⟩ := hw9
  clear hP1 hD1 hz9 hk9 hvm9 ht9 hw9
  generalize H1 = H at hP hS ⊢
  have aa_28 := a_r1_1
  have aa_29 := a_r2_1
  have aa_30 := a_r4_1
  have aa_31 := a_r6_1
  have aa_32 := a_r8_1
  have aa_33 := a_r9_1
  have aa_34 := a_r10_1
  have o_h0 := E_23.1 _ _ o_h0
  have tq_35 : frP g ws_22 h0 := xp_27.2 tq_20 (by decide) tq_21
  refine W.widen (k := 0) (n := 0) (Nat.le_of_ble_eq_true rfl) (Nat.le_of_ble_eq_true rfl) ?_
  obtain ⟨fs9, hk_36, hq_36⟩ := ((gF.a (F' := []) Fr_24 (fun _ h => h))) _ _ _ hk_1
  obtain ⟨v0_36, r1_36, n1_36, r2_36, n2_36, c3_36, r4_36, n4_36, c5_36, r6_36, n6_36, c7_36, r8_36, n8_36, r9_36, n9_36, r10_36, n10_36, c11_36, v12_36, c13_36, c14_36, c15_36, l16_36, c17_36, c18_36, c19_36, rfl, o_v0_36, F_v0_36, a_r1_36, f3_36, a_r2_36, f5_36, a_r4_36, f7_36, a_r6_36, f9_36, a_r8_36, f11_36, a_r9_36, f13_36, a_r10_36, f15_36, o_v12_36, f17_36, f18_36, f19_36, f20_36, f21_36, f22_36, f23_36, f24_36, f25_36, f26_36, f27_36, f28_36, f29_36, f30_36, f31_36, -⟩ := (hG.1 _ _ _ _ hk_36).hX5 rfl
  have hn9 := fe_qr (hq_36 0 (by decide))
  subst hn9
  have o_b_2 := o_v0_36 _ rfl
  have F_b_2 := F_v0_36 _ rfl
  have hn9 := fe_qr (hq_36 12 (by decide))
  subst hn9
  have o_b_5 := o_v12_36 _ rfl
  have tq_37 : swU ws_22 h0 := swU_mo ((gF.tr (gF.mo (F' := [(5, 12), (5, 13), (5, 14)]) (C' := [(5, 10)]) (S' := none) Fr_10 (by decide) (fun _ h => absurd h List.not_mem_nil) (Or.inl rfl)) (gF.tr (gF.mo (F' := [(5, 12), (5, 13), (5, 14)]) (C' := [(5, 10)]) (S' := none) Fr_15 (by decide) (fun _ h => absurd h List.not_mem_nil) (Or.inl rfl)) (gF.tr (gF.mo (F' := [(5, 12), (5, 13), (5, 14)]) (C' := [(5, 10)]) (S' := none) Fr_19 (by decide) (fun _ h => absurd h List.not_mem_nil) (Or.inl rfl)) (gF.mo (F' := [(5, 12), (5, 13), (5, 14)]) (C' := [(5, 10)]) (S' := none) Fr_24 (fun _ h => absurd h List.not_mem_nil) (fun _ h => h) (Or.inr rfl)))))) (by decide) (by decide) (by decide) (by decide) (by decide) (by decide) (by decide) (by decide) (by decide) (by decide) (by decide) tk2
  have tq_38 : swC ws_22 h0 := swC_mo ((gF.tr (gF.mo (F' := [(5, 13), (5, 14)]) (C' := [(5, 10)]) (S' := none) Fr_15 (by decide) (fun _ h => absurd h List.not_mem_nil) (Or.inl rfl)) (gF.tr (gF.mo (F' := [(5, 13), (5, 14)]) (C' := [(5, 10)]) (S' := none) Fr_19 (by decide) (fun _ h => absurd h List.not_mem_nil) (Or.inl rfl)) (gF.mo (F' := [(5, 13), (5, 14)]) (C' := [(5, 10)]) (S' := none) Fr_24 (fun _ h => absurd h List.not_mem_nil) (fun _ h => h) (Or.inr rfl))))) (by decide) (by decide) (by decide) (by decide) (by decide) (by decide) (by decide) (by decide) (by decide) tq_11
  exact W.vret hx hb hr (fun t9 ht9 hW9 => ⟨⟨ws_22, rfl, ⟨trivial, (gN_of hD hk_36 (j := 0) rfl), (gN_of hD hk_36 (j := 12) rfl), tq_35, tq_37, tq_38⟩, ⟨(E_9.tr (E_14.tr (E_18.tr E_23))), (gF.tr (gF.mo (F' := [(5, 12), (5, 13), (5, 14)]) (C' := [(5, 10)]) (S' := none) Fr_10 (by decide) (fun _ h => absurd h List.not_mem_nil) (Or.inl rfl)) (gF.tr (gF.mo (F' := [(5, 12), (5, 13), (5, 14)]) (C' := [(5, 10)]) (S' := none) Fr_15 (by decide) (fun _ h => absurd h List.not_mem_nil) (Or.inl rfl)) (gF.tr (gF.mo (F' := [(5, 12), (5, 13), (5, 14)]) (C' := [(5, 10)]) (S' := none) Fr_19 (by decide) (fun _ h => absurd h List.not_mem_nil) (Or.inl rfl)) (gF.mo (F' := [(5, 12), (5, 13), (5, 14)]) (C' := [(5, 10)]) (S' := none) Fr_24 (fun _ h => absurd h List.not_mem_nil) (fun _ h => h) (Or.inr rfl))))), hG, by rw [ht9]; exact hP, hD⟩⟩, hS.F ht9⟩) hS.2.2 dX5_openFrame_28
set_option maxHeartbeats 1000000 in
set_option maxRecDepth 100000 in
theorem m_X5_closeFrame (l : Launch) (g : Gm) (sz : Nat) (ws : va_W) (h0 : Nat) (hG : Good g ws) (o_h0 : gC ws h0 5) (nn_h0_0 : gN ws h0 0) (tk0 : frP g ws h0) (tk1 : swU ws h0) : Met l yX5_closeFrame (wt yX5_closeFrame cX5_closeFrame 1 none) ({ frames := 1, cells := 0, slots := 0, locals := 21 }) (va_Pc [.ref h0] (st_G g sz ws)) (va_Qv (fun (u9 : va_W) => (True) ∧ (gN u9 h0 0) ∧ (gN u9 h0 12) ∧ (frP g u9 h0) ∧ (swU u9 h0) ∧ (swC u9 h0)) (gQ1 g [(5, 11), (5, 12), (5, 13), (5, 14)] [] none (va_A ws sz) ws) (va_A ws sz)) (0) (0) (va_A ws sz) := by
  refine Met.ofW (cc := cX5_closeFrame) (maxL := 1) (ret := none) (by decide) rfl ?_
  intro p e s m args below meth c s₁ B hml hv
  obtain ⟨rfl, hsz, hP, hK, hD0, hex, hE⟩ := hv
  have hx := B.exec
  have hb := B.bytes
  have hr := B.returns
  have hts0 := atoms_spec (ws := wt yX5_closeFrame cX5_closeFrame 1 none) B.pre
  have hts : ∀ w ∈ tb, w.before _ s = true := fun w h => hts0 w (List.mem_cons_of_mem _ h)
  have hown : s.vm.findClass RX5 = some m.cls := findClass_of_methodNamed B.named
  subst hsz
  have hD := hD0.self (sz := s.heap.size)
  generalize hAe : va_A ws s.heap.size = A at hD hE ⊢
  have hA : ∀ q : Nat, s.heap.size ≤ q → A q := fun q h => by rw [← hAe]; exact Or.inr h
  have hS : va_S A s.heap s.heap [] := va_S.rf
  have hl := lv_entry ([.ref h0]) (n := 1) (Nat.le_of_ble_eq_true rfl)
  rw [lg_entry_eq]
  generalize (lg_sl ([.ref h0]) ++ List.replicate (1 - (lg_sl ([.ref h0])).length) Slot.unset).toArray = ls at hl ⊢
  have hl : lv_has ls 1 [(0, .ref h0)] := hl
  obtain ⟨k_1, fs9, hk_1⟩ := gC_of o_h0
  obtain ⟨v0_1, r1_1, n1_1, r2_1, n2_1, c3_1, r4_1, n4_1, c5_1, r6_1, n6_1, c7_1, r8_1, n8_1, r9_1, n9_1, r10_1, n10_1, c11_1, v12_1, c13_1, c14_1, c15_1, l16_1, c17_1, c18_1, c19_1, rfl, o_v0_1, F_v0_1, a_r1_1, f3_1, a_r2_1, f5_1, a_r4_1, f7_1, a_r6_1, f9_1, a_r8_1, f11_1, a_r9_1, f13_1, a_r10_1, f15_1, o_v12_1, f17_1, f18_1, f19_1, f20_1, f21_1, f22_1, f23_1, f24_1, f25_1, f26_1, f27_1, f28_1, f29_1, f30_1, f31_1, -⟩ := (hG.1 _ _ _ _ hk_1).hX5 rfl
  obtain ⟨b_2, hn9⟩ := nn_h0_0 _ _ _ hk_1
  have hn9 := fe_qr hn9
  subst hn9
  have o_b_2 := o_v0_1 _ rfl
  have F_b_2 := F_v0_1 _ rfl
  refine lv_aload_n hx hb dX5_closeFrame_0 rfl (lv_at hl 0 rfl) ?_
  refine lv_iconst (v := 0) hx hb dX5_closeFrame_1 (by decide) ?_
  refine lv_aload_n hx hb dX5_closeFrame_2 rfl (lv_at hl 0 rfl) ?_
  refine va_get (D := gD g) (ci := 5) (v := .int c11_1) (C := RX5) (T := TX5) (N := 20) hx hb hts inX5 hown hK hP k_1 hk_1 rfl 11 (by decide) (hts _ kw_1025) (fun _ h9 => h9) rfl dX5_closeFrame_3 ?_
  refine lv_iconst (v := 1) hx hb dX5_closeFrame_6 (by decide) ?_
  refine lv_isub hx hb dX5_closeFrame_7 ?_
  refine lv_topi (fun z_3 ez_3 => ?_)
  refine va_mmax hx hb (by rw [hml]; exact hl.1.symm) hown (hts _ kw_1026) (hts _ kw_1747) (hts _ kw_1748) (hts _ kw_1746) (Nat.le_of_ble_eq_true rfl) (Nat.le_of_ble_eq_true rfl) (Nat.le_of_ble_eq_true rfl) (Nat.le_of_ble_eq_true rfl) dX5_closeFrame_8 ?_
  refine lv_topi (fun z_4 ez_4 => ?_)
  have hkS := hk_1
  have hDS := hD
  have hV9 : okv ws 5 11 (.int z_4) := okv_i
  refine va_put (D := gD g) (ci := 5) (v := .int z_4) (ty := .int) (C := RX5) (T := TX5) (N := 20) hx hb hts inX5 tyX5 tyX5_ok nmX5 hown hK hP hD hS k_1 hk_1 rfl 11 (by decide) (hts _ kw_1025) (fun _ h9 => h9) rfl (by decide +kernel) rfl rfl (Nat.le_of_ble_eq_true rfl) dX5_closeFrame_11 (fun H locs hP hD hS => ?_)
  have f_5 : 0 ≤ z_4.toInt := (by have e0 : (0 : Int32).toInt = 0 := (by decide); have e1 : (1 : Int32).toInt = 1 := (by decide); have q_z_4 := i_max ez_4; obtain ⟨u_z_3, q_z_3⟩ := i_sub ez_3; have g_c11_1 := i_rg c11_1; have g_z_3 := i_rg z_3; have g_z_4 := i_rg z_4; omega)
  have f_6 : z_4.toInt ≤ 59 := (by have e0 : (0 : Int32).toInt = 0 := (by decide); have e1 : (1 : Int32).toInt = 1 := (by decide); have q_z_4 := i_max ez_4; have q_f_5 := f_5; obtain ⟨u_z_3, q_z_3⟩ := i_sub ez_3; have g_c11_1 := i_rg c11_1; have g_z_3 := i_rg z_3; have g_z_4 := i_rg z_4; omega)
  have hi_7 : invX5 g ws h0 [.ref b_2, .ref r1_1, .ref r2_1, .int c3_1, .ref r4_1, .int c5_1, .ref r6_1, .int c7_1, .ref r8_1, .ref r9_1, .ref r10_1, .int z_4, va_rf v12_1, .int c13_1, .int c14_1, .int c15_1, .long l16_1, .int c17_1, .int c18_1, .int c19_1] := ⟨(some b_2), r1_1, (n1_1), r2_1, (n2_1), (c3_1), r4_1, (n4_1), (c5_1), r6_1, (n6_1), (c7_1), r8_1, (n8_1), r9_1, (n9_1), r10_1, (n10_1), (z_4), v12_1, (c13_1), (c14_1), (c15_1), (l16_1), (c17_1), (c18_1), (c19_1), rfl, (fun b h9 => by cases h9; exact o_b_2), (fun b h9 => by cases h9; exact F_b_2), a_r1_1, f3_1, a_r2_1, f5_1, a_r4_1, f7_1, a_r6_1, f9_1, a_r8_1, f11_1, a_r9_1, f13_1, a_r10_1, f15_1, o_v12_1, f17_1, f18_1, f19_1, f20_1, f21_1, f22_1, f_5, f_6, f25_1, f26_1, f27_1, f28_1, f29_1, f30_1, f31_1, trivial⟩
  obtain ⟨ws_8, e_ws_8⟩ : ∃ z, z = ws.set k_1 (h0, .inr (5, [.ref b_2, .ref r1_1, .ref r2_1, .int c3_1, .ref r4_1, .int c5_1, .ref r6_1, .int c7_1, .ref r8_1, .ref r9_1, .ref r10_1, .int z_4, va_rf v12_1, .int c13_1, .int c14_1, .int c15_1, .long l16_1, .int c17_1, .int c18_1, .int c19_1])) := ⟨_, rfl⟩
  have hP : va_P (gD g) cl0 ws_8 H := by rw [e_ws_8]; exact hP
  have hD : va_D A ws_8 := by rw [e_ws_8]; exact hD
  have E_9 : gE ws ws_8 := gE_set e_ws_8 hk_1 (cw_o (fi := 11) (v := .int z_4) rfl (by decide))
  have hG : Good g ws_8 := Good_set (fi := 11) (v := .int z_4) e_ws_8 hk_1 E_9 rfl hV9 hG (ivX5 hi_7)
  have Fr_10 : gF [(5, 11)] [] (some h0) ws ws_8 := gF_put (fi := 11) (v := .int z_4) e_ws_8 hk_1 rfl (by decide)
  have hkN := gset_self e_ws_8 hk_1
  have hk_1 := hkN
  have o_h0 := E_9.1 _ _ o_h0
  have a_r1_1 := E_9.1 _ _ a_r1_1
  have a_r2_1 := E_9.1 _ _ a_r2_1
  have a_r4_1 := E_9.1 _ _ a_r4_1
  have a_r6_1 := E_9.1 _ _ a_r6_1
  have a_r8_1 := E_9.1 _ _ a_r8_1
  have a_r9_1 := E_9.1 _ _ a_r9_1
  have a_r10_1 := E_9.1 _ _ a_r10_1
  have o_v12_1 : ∀ b, v12_1 = some b → gC ws_8 b 7 := fun b h => E_9.1 _ _ (o_v12_1 b h)
  have o_b_2 := E_9.1 _ _ o_b_2
  have F_b_2 := F_b_2.mo E_9
  have tq_11 : frP g ws_8 h0 := frP_down e_ws_8 hDS hkS (d := c11_1) (d' := z_4) rfl rfl (by have e0 : (0 : Int32).toInt = 0 := (by decide); have e1 : (1 : Int32).toInt = 1 := (by decide); have q_f23_1 := f23_1; have q_f24_1 := f24_1; obtain ⟨u_z_3, q_z_3⟩ := i_sub ez_3; have q_z_4 := i_max ez_4; have q_f_5 := f_5; have q_f_6 := f_6; have g_c11_1 := i_rg c11_1; have g_z_3 := i_rg z_3; have g_z_4 := i_rg z_4; omega) tk0
  refine lv_aload_n hx hb dX5_closeFrame_14 rfl (lv_at hl 0 rfl) ?_
  refine lv_aload_n hx hb dX5_closeFrame_15 rfl (lv_at hl 0 rfl) ?_
  refine va_get (D := gD g) (ci := 5) (v := .ref b_2) (C := RX5) (T := TX5) (N := 20) hx hb hts inX5 hown hK hP k_1 hk_1 rfl 0 (by decide) (hts _ kw_1027) (fun _ h9 => h9) rfl dX5_closeFrame_16 ?_
  refine lv_aload_n hx hb dX5_closeFrame_19 rfl (lv_at hl 0 rfl) ?_
  refine lv_iconst (v := 0) hx hb dX5_closeFrame_20 (by decide) ?_
  have hFc := gfree hD hS hA
  refine va_calli (va_runV (As := [.int 0]) (rest := [.ref b_2, .ref h0]) ⟨hx, hb, hml, hown, hts⟩ (m_X5_frameAt l g H.size ws_8 h0 (0) hG o_h0 (by have e0 : (0 : Int32).toInt = 0 := (by decide); omega)) (cwV 1 hts (gd_V kw_1028 kw_1056 kw_1057 kw_398 kw_1055) rfl rfl rfl (by decide +kernel) ⟨Nat.le_of_ble_eq_true rfl, Nat.le_of_ble_eq_true rfl⟩) ⟨gblind, va_recv hK hP (ci := 5) (q0 := k_1) rfl hk_1, fun U hU hW9 => gmk hU hW9 hP hK hD hex hE hS hFc⟩ rfl rfl hl.1 rfl (lv_room (Nat.le_of_ble_eq_true rfl)) dX5_closeFrame_21 ⟨Nat.le_of_ble_eq_true rfl, Nat.le_of_ble_eq_true rfl⟩) hS (fun q _ h => hFc q h) hFc (fun r_12 u9 t9 H1 locs ht9 hvm9 hw9 hB9 hz9 hk9 hS => ?_)
  have hP : va_P (gD g) cl0 ws_8 H1 := by rw [← ht9]; exact hB9.1
  obtain ⟨hw9, xp_13⟩ := hw9
  clear hB9 hz9 hk9 hvm9 ht9 hw9
  generalize H1 = H at hP hS ⊢
  have hFc := gfree hD hS hA
  obtain ⟨k_14, fs_14, hk_14⟩ := gC_of o_b_2
  refine va_callq (va_runV (As := [.int r_12]) (rest := [.ref h0]) ⟨hx, hb, hml, hown, hts⟩ (m_X10_rowAt l g H.size ws_8 b_2 (r_12) hG o_b_2) (cwV 1 hts (gd_V kw_1029 kw_70 kw_71 kw_34 kw_69) rfl rfl rfl (by decide +kernel) ⟨Nat.le_of_ble_eq_true rfl, Nat.le_of_ble_eq_true rfl⟩) ⟨gblind, va_recv hK hP (ci := 9) (q0 := k_14) rfl hk_14, fun U hU hW9 => gmk hU hW9 hP hK hD hex hE hS hFc⟩ rfl rfl hl.1 rfl (lv_room (Nat.le_of_ble_eq_true rfl)) dX5_closeFrame_24 ⟨Nat.le_of_ble_eq_true rfl, Nat.le_of_ble_eq_true rfl⟩) hS (fun q _ h => hFc q h) hFc (fun r_15 u9 t9 H1 locs ht9 hvm9 hw9 hB9 hz9 hk9 hS => ?_)
  have hP : va_P (gD g) cl0 ws_8 H1 := by rw [← ht9]; exact hB9.1
  obtain ⟨o_r_15, h_r_15⟩ := id hw9
  clear hB9 hz9 hk9 hvm9 ht9 hw9
  generalize H1 = H at hP hS ⊢
  have hM9 : inM ws_8 b_2 _ := inU_of hD hk_1 rfl (xp_13 (by decide) tq_11)
  have hr9 := h_r_15
  obtain ⟨b_16, hb9⟩ := h_r_15.2 F_b_2 hM9
  subst hb9
  have o_b_16 := o_r_15 _ rfl
  have tq_17 : swU ws_8 h0 := swU_mo ((gF.mo (F' := [(5, 11)]) (C' := []) (S' := none) Fr_10 (fun _ h => h) (fun _ h => h) (Or.inl rfl))) (by decide) (by decide) (by decide) (by decide) (by decide) (by decide) (by decide) (by decide) (by decide) (by decide) (by decide) tk1
  have sw_18 : swR ws_8 b_16 := swU_at hD hk_1 (u := b_2) rfl tq_17 (h_r_15.1 _ rfl).2
  have hV9 : okv ws_8 5 12 (.ref b_16) := (okv_o hD o_b_16)
  refine va_put (D := gD g) (ci := 5) (v := .ref b_16) (ty := (.object "CodeFoundry$Row")) (C := RX5) (T := TX5) (N := 20) hx hb hts inX5 tyX5 tyX5_ok nmX5 hown hK hP hD hS k_1 hk_1 rfl 12 (by decide) (hts _ kw_1030) (fun _ h9 => h9) rfl (by decide +kernel) rfl rfl (Nat.le_of_ble_eq_true rfl) dX5_closeFrame_27 (fun H locs hP hD hS => ?_)
  have hi_19 : invX5 g ws_8 h0 [.ref b_2, .ref r1_1, .ref r2_1, .int c3_1, .ref r4_1, .int c5_1, .ref r6_1, .int c7_1, .ref r8_1, .ref r9_1, .ref r10_1, .int z_4, .ref b_16, .int c13_1, .int c14_1, .int c15_1, .long l16_1, .int c17_1, .int c18_1, .int c19_1] := ⟨(some b_2), r1_1, (n1_1), r2_1, (n2_1), (c3_1), r4_1, (n4_1), (c5_1), r6_1, (n6_1), (c7_1), r8_1, (n8_1), r9_1, (n9_1), r10_1, (n10_1), (z_4), (some b_16), (c13_1), (c14_1), (c15_1), (l16_1), (c17_1), (c18_1), (c19_1), rfl, (fun b h9 => by cases h9; exact o_b_2), (fun b h9 => by cases h9; exact F_b_2), a_r1_1, f3_1, a_r2_1, f5_1, a_r4_1, f7_1, a_r6_1, f9_1, a_r8_1, f11_1, a_r9_1, f13_1, a_r10_1, f15_1, (fun b h9 => by cases h9; exact o_b_16), f17_1, f18_1, f19_1, f20_1, f21_1, f22_1, f_5, f_6, f25_1, f26_1, f27_1, f28_1, f29_1, f30_1, f31_1, trivial⟩
  obtain ⟨ws_20, e_ws_20⟩ : ∃ z, z = ws_8.set k_1 (h0, .inr (5, [.ref b_2, .ref r1_1, .ref r2_1, .int c3_1, .ref r4_1, .int c5_1, .ref r6_1, .int c7_1, .ref r8_1, .ref r9_1, .ref r10_1, .int z_4, .ref b_16, .int c13_1, .int c14_1, .int c15_1, .long l16_1, .int c17_1, .int c18_1, .int c19_1])) := ⟨_, rfl⟩
  have hP : va_P (gD g) cl0 ws_20 H := by rw [e_ws_20]; exact hP
  have hD : va_D A ws_20 := by rw [e_ws_20]; exact hD
  have E_21 : gE ws_8 ws_20 := gE_set e_ws_20 hk_1 (cw_o (fi := 12) (v := .ref b_16) rfl (by decide))
  have hG : Good g ws_20 := Good_set (fi := 12) (v := .ref b_16) e_ws_20 hk_1 E_21 rfl hV9 hG (ivX5 hi_19)
  have Fr_22 : gF [(5, 12)] [] (some h0) ws_8 ws_20 := gF_put (fi := 12) (v := .ref b_16) e_ws_20 hk_1 rfl (by decide)
  have hkN := gset_self e_ws_20 hk_1
  have hk_1 := hkN
  have o_h0 := E_21.1 _ _ o_h0
  have a_r1_1 := E_21.1 _ _ a_r1_1
  have a_r2_1 := E_21.1 _ _ a_r2_1
  have a_r4_1 := E_21.1 _ _ a_r4_1
  have a_r6_1 := E_21.1 _ _ a_r6_1
  have a_r8_1 := E_21.1 _ _ a_r8_1
  have a_r9_1 := E_21.1 _ _ a_r9_1
  have a_r10_1 := E_21.1 _ _ a_r10_1
  have o_b_2 := E_21.1 _ _ o_b_2
  have F_b_2 := F_b_2.mo E_21
  have o_b_16 := E_21.1 _ _ o_b_16
  have tq_23 : swC ws_20 h0 := ⟨_, b_16, _, hk_1, rfl, swR_mo ((gF.mo (F' := [(5, 12)]) (C' := []) (S' := none) Fr_22 (fun _ h => h) (fun _ h => h) (Or.inl rfl))) (by decide) (by decide) (by decide) (by decide) (by decide) (by decide) (by decide) (by decide) sw_18⟩
  refine lv_aload_n hx hb dX5_closeFrame_30 rfl (lv_at hl 0 rfl) ?_
  refine lv_aload_n hx hb dX5_closeFrame_31 rfl (lv_at hl 0 rfl) ?_
  refine lv_iconst (v := 1) hx hb dX5_closeFrame_32 (by decide) ?_
  have hFc := gfree hD hS hA
  refine va_calli (va_runV (As := [.int 1]) (rest := [.ref h0]) ⟨hx, hb, hml, hown, hts⟩ (m_X5_frameAt l g H.size ws_20 h0 (1) hG o_h0 (by have e1 : (1 : Int32).toInt = 1 := (by decide); omega)) (cwV 1 hts (gd_V kw_1028 kw_1056 kw_1057 kw_398 kw_1055) rfl rfl rfl (by decide +kernel) ⟨Nat.le_of_ble_eq_true rfl, Nat.le_of_ble_eq_true rfl⟩) ⟨gblind, va_recv hK hP (ci := 5) (q0 := k_1) rfl hk_1, fun U hU hW9 => gmk hU hW9 hP hK hD hex hE hS hFc⟩ rfl rfl hl.1 rfl (lv_room (Nat.le_of_ble_eq_true rfl)) dX5_closeFrame_33 ⟨Nat.le_of_ble_eq_true rfl, Nat.le_of_ble_eq_true rfl⟩) hS (fun q _ h => hFc q h) hFc (fun r_24 u9 t9 H1 locs ht9 hvm9 hw9 hB9 hz9 hk9 hS => ?_)
  have hP : va_P (gD g) cl0 ws_20 H1 := by rw [← ht9]; exact hB9.1
  obtain ⟨hw9, xp_25⟩ := hw9
  clear hB9 hz9 hk9 hvm9 ht9 hw9
  generalize H1 = H at hP hS ⊢
  have hV9 : okv ws_20 5 13 (.int r_24) := okv_i
  refine va_put (D := gD g) (ci := 5) (v := .int r_24) (ty := .int) (C := RX5) (T := TX5) (N := 20) hx hb hts inX5 tyX5 tyX5_ok nmX5 hown hK hP hD hS k_1 hk_1 rfl 13 (by decide) (hts _ kw_1021) (fun _ h9 => h9) rfl (by decide +kernel) rfl rfl (Nat.le_of_ble_eq_true rfl) dX5_closeFrame_36 (fun H locs hP hD hS => ?_)
  have hi_26 : invX5 g ws_20 h0 [.ref b_2, .ref r1_1, .ref r2_1, .int c3_1, .ref r4_1, .int c5_1, .ref r6_1, .int c7_1, .ref r8_1, .ref r9_1, .ref r10_1, .int z_4, .ref b_16, .int r_24, .int c14_1, .int c15_1, .long l16_1, .int c17_1, .int c18_1, .int c19_1] := ⟨(some b_2), r1_1, (n1_1), r2_1, (n2_1), (c3_1), r4_1, (n4_1), (c5_1), r6_1, (n6_1), (c7_1), r8_1, (n8_1), r9_1, (n9_1), r10_1, (n10_1), (z_4), (some b_16), (r_24), (c14_1), (c15_1), (l16_1), (c17_1), (c18_1), (c19_1), rfl, (fun b h9 => by cases h9; exact o_b_2), (fun b h9 => by cases h9; exact F_b_2), a_r1_1, f3_1, a_r2_1, f5_1, a_r4_1, f7_1, a_r6_1, f9_1, a_r8_1, f11_1, a_r9_1, f13_1, a_r10_1, f15_1, (fun b h9 => by cases h9; exact o_b_16), f17_1, f18_1, f19_1, f20_1, f21_1, f22_1, f_5, f_6, f25_1, f26_1, f27_1, f28_1, f29_1, f30_1, f31_1, trivial⟩
  obtain ⟨ws_27, e_ws_27⟩ : ∃ z, z = ws_20.set k_1 (h0, .inr (5, [.ref b_2, .ref r1_1, .ref r2_1, .int c3_1, .ref r4_1, .int c5_1, .ref r6_1, .int c7_1, .ref r8_1, .ref r9_1, .ref r10_1, .int z_4, .ref b_16, .int r_24, .int c14_1, .int c15_1, .long l16_1, .int c17_1, .int c18_1, .int c19_1])) := ⟨_, rfl⟩
  have hP : va_P (gD g) cl0 ws_27 H := by rw [e_ws_27]; exact hP
  have hD : va_D A ws_27 := by rw [e_ws_27]; exact hD
  have E_28 : gE ws_20 ws_27 := gE_set e_ws_27 hk_1 (cw_o (fi := 13) (v := .int r_24) rfl (by decide))
  have hG : Good g ws_27 := Good_set (fi := 13) (v := .int r_24) e_ws_27 hk_1 E_28 rfl hV9 hG (ivX5 hi_26)
  have Fr_29 : gF [(5, 13)] [] (some h0) ws_20 ws_27 := gF_put (fi := 13) (v := .int r_24) e_ws_27 hk_1 rfl (by decide)
  have hkN := gset_self e_ws_27 hk_1
  have hk_1 := hkN
  have o_h0 := E_28.1 _ _ o_h0
  have a_r1_1 := E_28.1 _ _ a_r1_1
  have a_r2_1 := E_28.1 _ _ a_r2_1
  have a_r4_1 := E_28.1 _ _ a_r4_1
  have a_r6_1 := E_28.1 _ _ a_r6_1
  have a_r8_1 := E_28.1 _ _ a_r8_1
  have a_r9_1 := E_28.1 _ _ a_r9_1
  have a_r10_1 := E_28.1 _ _ a_r10_1
  have o_b_2 := E_28.1 _ _ o_b_2
  have F_b_2 := F_b_2.mo E_28
  have o_b_16 := E_28.1 _ _ o_b_16
  refine lv_aload_n hx hb dX5_closeFrame_39 rfl (lv_at hl 0 rfl) ?_
  refine lv_aload_n hx hb dX5_closeFrame_40 rfl (lv_at hl 0 rfl) ?_
  refine lv_iconst (v := 2) hx hb dX5_closeFrame_41 (by decide) ?_
  have hFc := gfree hD hS hA
  refine va_calli (va_runV (As := [.int 2]) (rest := [.ref h0]) ⟨hx, hb, hml, hown, hts⟩ (m_X5_frameAt l g H.size ws_27 h0 (2) hG o_h0 (by have e2 : (2 : Int32).toInt = 2 := (by decide); omega)) (cwV 1 hts (gd_V kw_1028 kw_1056 kw_1057 kw_398 kw_1055) rfl rfl rfl (by decide +kernel) ⟨Nat.le_of_ble_eq_true rfl, Nat.le_of_ble_eq_true rfl⟩) ⟨gblind, va_recv hK hP (ci := 5) (q0 := k_1) rfl hk_1, fun U hU hW9 => gmk hU hW9 hP hK hD hex hE hS hFc⟩ rfl rfl hl.1 rfl (lv_room (Nat.le_of_ble_eq_true rfl)) dX5_closeFrame_42 ⟨Nat.le_of_ble_eq_true rfl, Nat.le_of_ble_eq_true rfl⟩) hS (fun q _ h => hFc q h) hFc (fun r_30 u9 t9 H1 locs ht9 hvm9 hw9 hB9 hz9 hk9 hS => ?_)
  have hP : va_P (gD g) cl0 ws_27 H1 := by rw [← ht9]; exact hB9.1
  obtain ⟨hw9, xp_31⟩ := hw9
  clear hB9 hz9 hk9 hvm9 ht9 hw9
  generalize H1 = H at hP hS ⊢
  have hV9 : okv ws_27 5 14 (.int r_30) := okv_i
  refine va_put (D := gD g) (ci := 5) (v := .int r_30) (ty := .int) (C := RX5) (T := TX5) (N := 20) hx hb hts inX5 tyX5 tyX5_ok nmX5 hown hK hP hD hS k_1 hk_1 rfl 14 (by decide) (hts _ kw_1031) (fun _ h9 => h9) rfl (by decide +kernel) rfl rfl (Nat.le_of_ble_eq_true rfl) dX5_closeFrame_45 (fun H locs hP hD hS => ?_)
  have hi_32 : invX5 g ws_27 h0 [.ref b_2, .ref r1_1, .ref r2_1, .int c3_1, .ref r4_1, .int c5_1, .ref r6_1, .int c7_1, .ref r8_1, .ref r9_1, .ref r10_1, .int z_4, .ref b_16, .int r_24, .int r_30, .int c15_1, .long l16_1, .int c17_1, .int c18_1, .int c19_1] := ⟨(some b_2), r1_1, (n1_1), r2_1, (n2_1), (c3_1), r4_1, (n4_1), (c5_1), r6_1, (n6_1), (c7_1), r8_1, (n8_1), r9_1, (n9_1), r10_1, (n10_1), (z_4), (some b_16), (r_24), (r_30), (c15_1), (l16_1), (c17_1), (c18_1), (c19_1), rfl, (fun b h9 => by cases h9; exact o_b_2), (fun b h9 => by cases h9; exact F_b_2), a_r1_1, f3_1, a_r2_1, f5_1, a_r4_1, f7_1, a_r6_1, f9_1, a_r8_1, f11_1, a_r9_1, f13_1, a_r10_1, f15_1, (fun b h9 => by cases h9; exact o_b_16), f17_1, f18_1, f19_1, f20_1, f21_1, f22_1, f_5, f_6, f25_1, f26_1, f27_1, f28_1, f29_1, f30_1, f31_1, trivial⟩
  obtain ⟨ws_33, e_ws_33⟩ : ∃ z, z = ws_27.set k_1 (h0, .inr (5, [.ref b_2, .ref r1_1, .ref r2_1, .int c3_1, .ref r4_1, .int c5_1, .ref r6_1, .int c7_1, .ref r8_1, .ref r9_1, .ref r10_1, .int z_4, .ref b_16, .int r_24, .int r_30, .int c15_1, .long l16_1, .int c17_1, .int c18_1, .int c19_1])) := ⟨_, rfl⟩
  have hP : va_P (gD g) cl0 ws_33 H := by rw [e_ws_33]; exact hP
  have hD : va_D A ws_33 := by rw [e_ws_33]; exact hD
  have E_34 : gE ws_27 ws_33 := gE_set e_ws_33 hk_1 (cw_o (fi := 14) (v := .int r_30) rfl (by decide))
  have hG : Good g ws_33 := Good_set (fi := 14) (v := .int r_30) e_ws_33 hk_1 E_34 rfl hV9 hG (ivX5 hi_32)
  have Fr_35 : gF [(5, 14)] [] (some h0) ws_27 ws_33 := gF_put (fi := 14) (v := .int r_30) e_ws_33 hk_1 rfl (by decide)
  have hkN := gset_self e_ws_33 hk_1
  have hk_1 := hkN
  have o_h0 := E_34.1 _ _ o_h0
  have a_r1_1 := E_34.1 _ _ a_r1_1
  have a_r2_1 := E_34.1 _ _ a_r2_1
  have a_r4_1 := E_34.1 _ _ a_r4_1
  have a_r6_1 := E_34.1 _ _ a_r6_1
  have a_r8_1 := E_34.1 _ _ a_r8_1
  have a_r9_1 := E_34.1 _ _ a_r9_1
  have a_r10_1 := E_34.1 _ _ a_r10_1
  have o_b_2 := E_34.1 _ _ o_b_2
  have F_b_2 := F_b_2.mo E_34
  have o_b_16 := E_34.1 _ _ o_b_16
  refine W.widen (k := 0) (n := 0) (Nat.le_of_ble_eq_true rfl) (Nat.le_of_ble_eq_true rfl) ?_
  have tq_36 : frP g ws_33 h0 := frP_mo ((gF.tr (gF.mo (F' := [(5, 12), (5, 13), (5, 14)]) (C' := []) (S' := none) Fr_22 (by decide) (fun _ h => h) (Or.inl rfl)) (gF.tr (gF.mo (F' := [(5, 12), (5, 13), (5, 14)]) (C' := []) (S' := none) Fr_29 (by decide) (fun _ h => h) (Or.inl rfl)) (gF.mo (F' := [(5, 12), (5, 13), (5, 14)]) (C' := []) (S' := none) Fr_35 (by decide) (fun _ h => h) (Or.inl rfl))))) (by decide) (by decide) (by decide) (by decide) (by decide) tq_11
  have tq_37 : swU ws_33 h0 := swU_mo ((gF.tr (gF.mo (F' := [(5, 12), (5, 13), (5, 14)]) (C' := []) (S' := none) Fr_22 (by decide) (fun _ h => h) (Or.inl rfl)) (gF.tr (gF.mo (F' := [(5, 12), (5, 13), (5, 14)]) (C' := []) (S' := none) Fr_29 (by decide) (fun _ h => h) (Or.inl rfl)) (gF.mo (F' := [(5, 12), (5, 13), (5, 14)]) (C' := []) (S' := none) Fr_35 (by decide) (fun _ h => h) (Or.inl rfl))))) (by decide) (by decide) (by decide) (by decide) (by decide) (by decide) (by decide) (by decide) (by decide) (by decide) (by decide) tq_17
  have tq_38 : swC ws_33 h0 := swC_mo ((gF.tr (gF.mo (F' := [(5, 13), (5, 14)]) (C' := []) (S' := none) Fr_29 (by decide) (fun _ h => h) (Or.inl rfl)) (gF.mo (F' := [(5, 13), (5, 14)]) (C' := []) (S' := none) Fr_35 (by decide) (fun _ h => h) (Or.inl rfl)))) (by decide) (by decide) (by decide) (by decide) (by decide) (by decide) (by decide) (by decide) (by decide) tq_23
  exact W.vret hx hb hr (fun t9 ht9 hW9 => ⟨⟨ws_33, rfl, ⟨trivial, (gN_of hD hk_1 (j := 0) rfl), (gN_of hD hk_1 (j := 12) rfl), tq_36, tq_37, tq_38⟩, ⟨(E_9.tr (E_21.tr (E_28.tr E_34))), (gF.tr (gF.mo (F' := [(5, 11), (5, 12), (5, 13), (5, 14)]) (C' := []) (S' := none) Fr_10 (by decide) (fun _ h => h) (Or.inl rfl)) (gF.tr (gF.mo (F' := [(5, 11), (5, 12), (5, 13), (5, 14)]) (C' := []) (S' := none) Fr_22 (by decide) (fun _ h => h) (Or.inl rfl)) (gF.tr (gF.mo (F' := [(5, 11), (5, 12), (5, 13), (5, 14)]) (C' := []) (S' := none) Fr_29 (by decide) (fun _ h => h) (Or.inl rfl)) (gF.mo (F' := [(5, 11), (5, 12), (5, 13), (5, 14)]) (C' := []) (S' := none) Fr_35 (by decide) (fun _ h => h) (Or.inl rfl))))), hG, by rw [ht9]; exact hP, hD⟩⟩, hS.F ht9⟩) hS.2.2 dX5_closeFrame_48
