set_option maxHeartbeats 1000000 in
set_option maxRecDepth 100000 in
theorem m_X11_fits (l : Launch) (g : Gm) (sz : Nat) (ws : va_W) (h0 : Nat) (hG : Good g ws) (o_h0 : gC ws h0 10) : Met l yX11_fits (wt yX11_fits cX11_fits 1 (some .boolean)) ({ frames := 0, cells := 0, slots := 0, locals := 0 }) (va_Pc [.ref h0] (st_G g sz ws)) (va_Qi (fun (r : Int32) (u9 : Unit) => r = 0 ∨ r = 1) (gQ0 g (va_A ws sz) ws) (va_A ws sz)) (0) (0) (va_A ws sz) := by
  refine Met.ofW (cc := cX11_fits) (maxL := 1) (ret := (some .boolean)) (by decide) rfl ?_
  intro p e s m args below meth c s₁ B hml hv
  obtain ⟨rfl, hsz, hP, hK, hD0, hex, hE⟩ := hv
  have hx := B.exec
  have hb := B.bytes
  have hr := B.returns
  have hts0 := atoms_spec (ws := wt yX11_fits cX11_fits 1 (some .boolean)) B.pre
  have hts : ∀ w ∈ tb, w.before _ s = true := fun w h => hts0 w (List.mem_cons_of_mem _ h)
  have hown : s.vm.findClass RX11 = some m.cls := findClass_of_methodNamed B.named
  subst hsz
  have hD := hD0.self (sz := s.heap.size)
  generalize hAe : va_A ws s.heap.size = A at hD hE ⊢
  have hA : ∀ q : Nat, s.heap.size ≤ q → A q := fun q h => by rw [← hAe]; exact Or.inr h
  have hS : va_S A s.heap s.heap [] := va_S.rf
  have hl := lv_entry ([.ref h0]) (n := 1) (Nat.le_of_ble_eq_true rfl)
  rw [lg_entry_eq]
  generalize (lg_sl ([.ref h0]) ++ List.replicate (1 - (lg_sl ([.ref h0])).length) Slot.unset).toArray = ls at hl ⊢
  have hl : lv_has ls 1 [(0, .ref h0)] := hl
  refine lv_aload_n hx hb dX11_fits_0 rfl (lv_at hl 0 rfl) ?_
  obtain ⟨k_1, fs9, hk_1⟩ := gC_of o_h0
  obtain ⟨r0_1, r1_1, r2_1, r3_1, n3_1, r4_1, n4_1, c5_1, c6_1, v7_1, c8_1, c9_1, r10_1, n10_1, r11_1, n11_1, r12_1, n12_1, r13_1, n13_1, r14_1, v15_1, r16_1, n16_1, r17_1, n17_1, rfl, o_r0_1, o_r1_1, o_r2_1, a_r3_1, f4_1, a_r4_1, f6_1, hz_c6_1, o_v7_1, a_r10_1, f10_1, a_r11_1, f12_1, a_r12_1, f14_1, a_r13_1, f16_1, o_r14_1, o_v15_1, a_r16_1, f20_1, a_r17_1, f22_1, f23_1, f24_1, f25_1, f26_1, f27_1, f28_1, -⟩ := (hG.1 _ _ _ _ hk_1).hX11 rfl
  refine va_get (D := gD g) (ci := 10) (v := .int c6_1) (C := RX11) (T := TX11) (N := 18) hx hb hts inX11 hown hK hP k_1 hk_1 rfl 6 (by decide) (hts _ kw_115) (fun _ h9 => h9) rfl dX11_fits_1 ?_
  have J_12 : ∀ (t_2 : Int32) (H : Heap) (locs : List Loc) (ls : Array Slot), t_2 = 0 ∨ t_2 = 1 → va_P (gD g) cl0 ws H → va_D A ws → va_S A s.heap H locs → lv_has ls 1 [] → W p l e (headSpec (wt yX11_fits cX11_fits 1 (some .boolean)) ({ frames := 0, cells := 0, slots := 0, locals := 0 })).room s m ([.ref h0] : List Value).toArray below meth c H locs (0) (0) (MQ below (va_Qi (fun (r : Int32) (u9 : Unit) => r = 0 ∨ r = 1) (gQ0 g A ws) A) ([.ref h0] : List Value).toArray s (0) (0) A) (F0 m 12 ls [.int t_2]) := by
    intro t_2 H locs ls iv_3 hP hD hS hl
    have hz_t_2 := iv_3
    refine W.widen (k := 0) (n := 0) (Nat.le_of_ble_eq_true rfl) (Nat.le_of_ble_eq_true rfl) ?_
    exact W.zret (v := t_2) hx hb hr (nz hz_t_2) (fun t9 ht9 hW9 => ⟨⟨_, (), rfl, hz_t_2, ⟨by rw [ht9]; exact hP, hD⟩⟩, hS.F ht9⟩) hS.2.2 dX11_fits_12
  refine lv_if_ne (tgt := 11) hx hb dX11_fits_4 (by decide) (fun c_6 => ?_) (fun c_6 => ?_)
  · refine lv_iconst (v := 0) hx hb dX11_fits_11 (by decide) ?_
    exact J_12 (0) _ _ ls (Or.inl rfl) hP hD hS (lv_sub hl [] rfl)
  · refine lv_iconst (v := 1) hx hb dX11_fits_7 (by decide) ?_
    refine lv_goto (tgt := 12) hx hb dX11_fits_8 (by decide) ?_
    exact J_12 (1) _ _ ls (Or.inr rfl) hP hD hS (lv_sub hl [] rfl)
set_option maxHeartbeats 1000000 in
set_option maxRecDepth 100000 in
theorem m_X11_unitByte (l : Launch) (g : Gm) (sz : Nat) (ws : va_W) (h0 : Nat) (x1 : Int32) (hG : Good g ws) (o_h0 : gC ws h0 10) (nn_h0_7 : gN ws h0 7) : Met l yX11_unitByte (wt yX11_unitByte cX11_unitByte 2 (some .int)) ({ frames := 0, cells := 0, slots := 0, locals := 0 }) (va_Pc [.ref h0, .int x1] (st_G g sz ws)) (va_Qi (fun (r : Int32) (u9 : Unit) => True) (gQ0 g (va_A ws sz) ws) (va_A ws sz)) (0) (0) (va_A ws sz) := by
  refine Met.ofW (cc := cX11_unitByte) (maxL := 2) (ret := (some .int)) (by decide) rfl ?_
  intro p e s m args below meth c s₁ B hml hv
  obtain ⟨rfl, hsz, hP, hK, hD0, hex, hE⟩ := hv
  have hx := B.exec
  have hb := B.bytes
  have hr := B.returns
  have hts0 := atoms_spec (ws := wt yX11_unitByte cX11_unitByte 2 (some .int)) B.pre
  have hts : ∀ w ∈ tb, w.before _ s = true := fun w h => hts0 w (List.mem_cons_of_mem _ h)
  have hown : s.vm.findClass RX11 = some m.cls := findClass_of_methodNamed B.named
  subst hsz
  have hD := hD0.self (sz := s.heap.size)
  generalize hAe : va_A ws s.heap.size = A at hD hE ⊢
  have hA : ∀ q : Nat, s.heap.size ≤ q → A q := fun q h => by rw [← hAe]; exact Or.inr h
  have hS : va_S A s.heap s.heap [] := va_S.rf
  have hl := lv_entry ([.ref h0, .int x1]) (n := 2) (Nat.le_of_ble_eq_true rfl)
  rw [lg_entry_eq]
  generalize (lg_sl ([.ref h0, .int x1]) ++ List.replicate (2 - (lg_sl ([.ref h0, .int x1])).length) Slot.unset).toArray = ls at hl ⊢
  have hl : lv_has ls 2 [(0, .ref h0), (1, .int x1)] := hl
  obtain ⟨k_1, fs9, hk_1⟩ := gC_of o_h0
  obtain ⟨r0_1, r1_1, r2_1, r3_1, n3_1, r4_1, n4_1, c5_1, c6_1, v7_1, c8_1, c9_1, r10_1, n10_1, r11_1, n11_1, r12_1, n12_1, r13_1, n13_1, r14_1, v15_1, r16_1, n16_1, r17_1, n17_1, rfl, o_r0_1, o_r1_1, o_r2_1, a_r3_1, f4_1, a_r4_1, f6_1, hz_c6_1, o_v7_1, a_r10_1, f10_1, a_r11_1, f12_1, a_r12_1, f14_1, a_r13_1, f16_1, o_r14_1, o_v15_1, a_r16_1, f20_1, a_r17_1, f22_1, f23_1, f24_1, f25_1, f26_1, f27_1, f28_1, -⟩ := (hG.1 _ _ _ _ hk_1).hX11 rfl
  obtain ⟨b_2, hn9⟩ := nn_h0_7 _ _ _ hk_1
  have hn9 := fe_qr hn9
  subst hn9
  have o_b_2 := o_v7_1 _ rfl
  refine lv_iload_n hx hb dX11_unitByte_0 rfl (lv_at hl 1 rfl) ?_
  have J_33 : ∀ (t_3 : Int32) (H : Heap) (locs : List Loc) (ls : Array Slot), va_P (gD g) cl0 ws H → va_D A ws → va_S A s.heap H locs → lv_has ls 2 [] → W p l e (headSpec (wt yX11_unitByte cX11_unitByte 2 (some .int)) ({ frames := 0, cells := 0, slots := 0, locals := 0 })).room s m ([.ref h0, .int x1] : List Value).toArray below meth c H locs (0) (0) (MQ below (va_Qi (fun (r : Int32) (u9 : Unit) => True) (gQ0 g A ws) A) ([.ref h0, .int x1] : List Value).toArray s (0) (0) A) (F0 m 33 ls [.int t_3]) := by
    intro t_3 H locs ls  hP hD hS hl
    refine W.widen (k := 0) (n := 0) (Nat.le_of_ble_eq_true rfl) (Nat.le_of_ble_eq_true rfl) ?_
    exact W.iret (v := t_3) hx hb hr (fun t9 ht9 hW9 => ⟨⟨_, (), rfl, trivial, ⟨by rw [ht9]; exact hP, hD⟩⟩, hS.F ht9⟩) hS.2.2 dX11_unitByte_33
  have J_16 : ∀  (H : Heap) (locs : List Loc) (ls : Array Slot), va_P (gD g) cl0 ws H → va_D A ws → va_S A s.heap H locs → lv_has ls 2 [] → W p l e (headSpec (wt yX11_unitByte cX11_unitByte 2 (some .int)) ({ frames := 0, cells := 0, slots := 0, locals := 0 })).room s m ([.ref h0, .int x1] : List Value).toArray below meth c H locs (0) (0) (MQ below (va_Qi (fun (r : Int32) (u9 : Unit) => True) (gQ0 g A ws) A) ([.ref h0, .int x1] : List Value).toArray s (0) (0) A) (F0 m 16 ls []) := by
    intro  H locs ls  hP hD hS hl
    refine lv_iconst (v := 0) hx hb dX11_unitByte_16 (by decide) ?_
    refine lv_goto (tgt := 33) hx hb dX11_unitByte_17 (by decide) ?_
    exact J_33 (0) H locs ls  hP hD hS (lv_sub hl [] rfl)
  refine lv_if_lt (tgt := 16) hx hb dX11_unitByte_1 (by decide) (fun c_8 => ?_) (fun c_8 => ?_)
  · exact J_16  _ _ ls  hP hD hS (lv_sub hl [] rfl)
  · refine lv_iload_n hx hb dX11_unitByte_4 rfl (lv_at hl 1 rfl) ?_
    refine lv_aload_n hx hb dX11_unitByte_5 rfl (lv_at hl 0 rfl) ?_
    refine va_get (D := gD g) (ci := 10) (v := .ref b_2) (C := RX11) (T := TX11) (N := 18) hx hb hts inX11 hown hK hP k_1 hk_1 rfl 7 (by decide) (hts _ kw_86) (fun _ h9 => h9) rfl dX11_unitByte_6 ?_
    obtain ⟨k_9, fs9, hk_9⟩ := gC_of o_b_2
    obtain ⟨r0_9, n0_9, c1_9, c2_9, c3_9, c4_9, r5_9, n5_9, r6_9, n6_9, r7_9, n7_9, c8_9, r9_9, n9_9, r10_9, n10_9, r11_9, n11_9, r12_9, n12_9, r13_9, n13_9, c14_9, c15_9, c16_9, c17_9, rfl, a_r0_9, f1_9, a_r5_9, f3_9, a_r6_9, f5_9, a_r7_9, f7_9, a_r9_9, f9_9, a_r10_9, f11_9, a_r11_9, f13_9, a_r12_9, f15_9, a_r13_9, f17_9, hz_c15_9, f19_9, f20_9, f21_9, f22_9, f23_9, f24_9, f25_9, f26_9, f27_9, f28_9, -⟩ := (hG.1 _ _ _ _ hk_9).hX10 rfl
    refine va_get (D := gD g) (ci := 9) (v := .ref r0_9) (C := RX10) (T := TX10) (N := 18) hx hb hts inX10 hown hK hP k_9 hk_9 rfl 0 (by decide) (hts _ kw_273) (fun _ h9 => h9) rfl dX11_unitByte_9 ?_
    obtain ⟨k_10, f_10, hk_10⟩ := gI_of a_r0_9
    obtain ⟨z_11, ez_11⟩ : ∃ z : Int32, Int32.ofNat n0_9 = z := ⟨_, rfl⟩
    refine va_alen (v := z_11) hx hb hK hP k_10 0 hk_10 rfl ez_11 dX11_unitByte_12 ?_
    refine lv_icmp_lt (tgt := 20) hx hb dX11_unitByte_13 (by decide) (fun c_12 => ?_) (fun c_12 => ?_)
    · refine lv_aload_n hx hb dX11_unitByte_20 rfl (lv_at hl 0 rfl) ?_
      refine va_get (D := gD g) (ci := 10) (v := .ref b_2) (C := RX11) (T := TX11) (N := 18) hx hb hts inX11 hown hK hP k_1 hk_1 rfl 7 (by decide) (hts _ kw_86) (fun _ h9 => h9) rfl dX11_unitByte_21 ?_
      refine va_get (D := gD g) (ci := 9) (v := .ref r0_9) (C := RX10) (T := TX10) (N := 18) hx hb hts inX10 hown hK hP k_9 hk_9 rfl 0 (by decide) (hts _ kw_273) (fun _ h9 => h9) rfl dX11_unitByte_24 ?_
      refine lv_iload_n hx hb dX11_unitByte_27 rfl (lv_at hl 1 rfl) ?_
      refine va_bald hx hb hK hP k_10 0 hk_10 rfl (i_in2 (by have e0 : (0 : Int32).toInt = 0 := (by decide); have q_c_8 := i_nlt c_8; have q_f1_9 := f1_9; have q_z_11 := i_len ez_11 f1_9; have q_c_12 := i_lt c_12; have g_x1 := i_rg x1; have g_z_11 := i_rg z_11; omega)) dX11_unitByte_28 ?_
      refine lv_topi (fun z_13 ez_13 => ?_)
      refine lv_sipush (v := 255) hx hb dX11_unitByte_29 (by decide) ?_
      refine lv_iand hx hb dX11_unitByte_32 ?_
      refine lv_topi (fun z_14 ez_14 => ?_)
      exact J_33 (z_14) _ _ ls  hP hD hS (lv_sub hl [] rfl)
    · exact J_16  _ _ ls  hP hD hS (lv_sub hl [] rfl)
set_option maxHeartbeats 1000000 in
set_option maxRecDepth 100000 in
theorem m_X11_isByte (l : Launch) (g : Gm) (sz : Nat) (ws : va_W) (y0 : Int64) (hG : Good g ws)  : Met l yX11_isByte (wt yX11_isByte cX11_isByte 2 (some .boolean)) ({ frames := 0, cells := 0, slots := 0, locals := 0 }) (va_Pc [.long y0] (st_G g sz ws)) (va_Qi (fun (r : Int32) (u9 : Unit) => r = 0 ∨ r = 1) (gQ0 g (va_A ws sz) ws) (va_A ws sz)) (0) (0) (va_A ws sz) := by
  refine Met.ofW (cc := cX11_isByte) (maxL := 2) (ret := (some .boolean)) (by decide) rfl ?_
  intro p e s m args below meth c s₁ B hml hv
  obtain ⟨rfl, hsz, hP, hK, hD0, hex, hE⟩ := hv
  have hx := B.exec
  have hb := B.bytes
  have hr := B.returns
  have hts0 := atoms_spec (ws := wt yX11_isByte cX11_isByte 2 (some .boolean)) B.pre
  have hts : ∀ w ∈ tb, w.before _ s = true := fun w h => hts0 w (List.mem_cons_of_mem _ h)
  have hown : s.vm.findClass RX11 = some m.cls := findClass_of_methodNamed B.named
  subst hsz
  have hD := hD0.self (sz := s.heap.size)
  generalize hAe : va_A ws s.heap.size = A at hD hE ⊢
  have hA : ∀ q : Nat, s.heap.size ≤ q → A q := fun q h => by rw [← hAe]; exact Or.inr h
  have hS : va_S A s.heap s.heap [] := va_S.rf
  have hl := lv_entry ([.long y0]) (n := 2) (Nat.le_of_ble_eq_true rfl)
  rw [lg_entry_eq]
  generalize (lg_sl ([.long y0]) ++ List.replicate (2 - (lg_sl ([.long y0])).length) Slot.unset).toArray = ls at hl ⊢
  have hl : lv_has ls 2 [(0, .long y0)] := hl
  refine lv_lload_n hx hb dX11_isByte_0 rfl (lv_at hl 0 rfl) ?_
  refine lv_lload_n hx hb dX11_isByte_1 rfl (lv_at hl 0 rfl) ?_
  obtain ⟨z_1, ez_1⟩ : ∃ y : Int32, (y0 : Int64).toInt32 = y := ⟨_, rfl⟩
  refine lv_l2i (v := z_1) hx hb dX11_isByte_2 ez_1 ?_
  obtain ⟨z_2, ez_2⟩ : ∃ y : Int32, (z_1 : Int32).toInt8.toInt32 = y := ⟨_, rfl⟩
  refine lv_i2b (v := z_2) hx hb dX11_isByte_3 ez_2 ?_
  obtain ⟨z_3, ez_3⟩ : ∃ y : Int64, (z_2 : Int32).toInt64 = y := ⟨_, rfl⟩
  refine lv_i2l (v := z_3) hx hb dX11_isByte_4 ez_3 ?_
  refine W.lcmp hx hb dX11_isByte_5 ?_
  refine lv_topi (fun z_4 ez_4 => ?_)
  have J_14 : ∀ (t_5 : Int32) (H : Heap) (locs : List Loc) (ls : Array Slot), t_5 = 0 ∨ t_5 = 1 → va_P (gD g) cl0 ws H → va_D A ws → va_S A s.heap H locs → lv_has ls 2 [] → W p l e (headSpec (wt yX11_isByte cX11_isByte 2 (some .boolean)) ({ frames := 0, cells := 0, slots := 0, locals := 0 })).room s m ([.long y0] : List Value).toArray below meth c H locs (0) (0) (MQ below (va_Qi (fun (r : Int32) (u9 : Unit) => r = 0 ∨ r = 1) (gQ0 g A ws) A) ([.long y0] : List Value).toArray s (0) (0) A) (F0 m 14 ls [.int t_5]) := by
    intro t_5 H locs ls iv_6 hP hD hS hl
    have hz_t_5 := iv_6
    refine W.widen (k := 0) (n := 0) (Nat.le_of_ble_eq_true rfl) (Nat.le_of_ble_eq_true rfl) ?_
    exact W.zret (v := t_5) hx hb hr (nz hz_t_5) (fun t9 ht9 hW9 => ⟨⟨_, (), rfl, hz_t_5, ⟨by rw [ht9]; exact hP, hD⟩⟩, hS.F ht9⟩) hS.2.2 dX11_isByte_14
  refine lv_if_ne (tgt := 13) hx hb dX11_isByte_6 (by decide) (fun c_9 => ?_) (fun c_9 => ?_)
  · refine lv_iconst (v := 0) hx hb dX11_isByte_13 (by decide) ?_
    exact J_14 (0) _ _ ls (Or.inl rfl) hP hD hS (lv_sub hl [] rfl)
  · refine lv_iconst (v := 1) hx hb dX11_isByte_9 (by decide) ?_
    refine lv_goto (tgt := 14) hx hb dX11_isByte_10 (by decide) ?_
    exact J_14 (1) _ _ ls (Or.inr rfl) hP hD hS (lv_sub hl [] rfl)
set_option maxHeartbeats 1000000 in
set_option maxRecDepth 100000 in
theorem m_X11_lengthOfPush (l : Launch) (g : Gm) (sz : Nat) (ws : va_W) (y0 : Int64) (x2 : Int32) (hG : Good g ws)  : Met l yX11_lengthOfPush (wt yX11_lengthOfPush cX11_lengthOfPush 3 (some .int)) ({ frames := 1, cells := 0, slots := 0, locals := 21 }) (va_Pc [.long y0, .int x2] (st_G g sz ws)) (va_Qi (fun (r : Int32) (u9 : Unit) => True) (gQ0 g (va_A ws sz) ws) (va_A ws sz)) (0) (0) (va_A ws sz) := by
  refine Met.ofW (cc := cX11_lengthOfPush) (maxL := 3) (ret := (some .int)) (by decide) rfl ?_
  intro p e s m args below meth c s₁ B hml hv
  obtain ⟨rfl, hsz, hP, hK, hD0, hex, hE⟩ := hv
  have hx := B.exec
  have hb := B.bytes
  have hr := B.returns
  have hts0 := atoms_spec (ws := wt yX11_lengthOfPush cX11_lengthOfPush 3 (some .int)) B.pre
  have hts : ∀ w ∈ tb, w.before _ s = true := fun w h => hts0 w (List.mem_cons_of_mem _ h)
  have hown : s.vm.findClass RX11 = some m.cls := findClass_of_methodNamed B.named
  subst hsz
  have hD := hD0.self (sz := s.heap.size)
  generalize hAe : va_A ws s.heap.size = A at hD hE ⊢
  have hA : ∀ q : Nat, s.heap.size ≤ q → A q := fun q h => by rw [← hAe]; exact Or.inr h
  have hS : va_S A s.heap s.heap [] := va_S.rf
  have hl := lv_entry ([.long y0, .int x2]) (n := 3) (Nat.le_of_ble_eq_true rfl)
  rw [lg_entry_eq]
  generalize (lg_sl ([.long y0, .int x2]) ++ List.replicate (3 - (lg_sl ([.long y0, .int x2])).length) Slot.unset).toArray = ls at hl ⊢
  have hl : lv_has ls 3 [(0, .long y0), (2, .int x2)] := hl
  refine lv_lload_n hx hb dX11_lengthOfPush_0 rfl (lv_at hl 0 rfl) ?_
  refine lv_ldc2 hx hb hown (hts _ kw_208) dX11_lengthOfPush_1 ?_
  refine W.lcmp hx hb dX11_lengthOfPush_4 ?_
  refine lv_topi (fun z_1 ez_1 => ?_)
  have J_18 : ∀  (H : Heap) (locs : List Loc) (ls : Array Slot), va_P (gD g) cl0 ws H → va_D A ws → va_S A s.heap H locs → lv_has ls 3 [(0, .long y0), (2, .int x2)] → W p l e (headSpec (wt yX11_lengthOfPush cX11_lengthOfPush 3 (some .int)) ({ frames := 1, cells := 0, slots := 0, locals := 21 })).room s m ([.long y0, .int x2] : List Value).toArray below meth c H locs (0) (0) (MQ below (va_Qi (fun (r : Int32) (u9 : Unit) => True) (gQ0 g A ws) A) ([.long y0, .int x2] : List Value).toArray s (0) (0) A) (F0 m 18 ls []) := by
    intro  H locs ls  hP hD hS hl
    refine lv_lload_n hx hb dX11_lengthOfPush_18 rfl (lv_at hl 0 rfl) ?_
    have hFc := gfree hD hS hA
    refine va_calli (va_runS (As := [.long y0]) (rest := []) ⟨hx, hb, hml, hown, hts⟩ (m_X11_isByte l g H.size ws (y0) hG ) (va_cwS 1 hts (gd_S kw_204 kw_174 kw_83 kw_173) rfl rfl rfl (by decide +kernel) ⟨Nat.le_of_ble_eq_true rfl, Nat.le_of_ble_eq_true rfl⟩) ⟨gblind, fun U hU hW9 => gmk hU hW9 hP hK hD hex hE hS hFc⟩ rfl rfl hl.1 rfl (lv_room (Nat.le_of_ble_eq_true rfl)) dX11_lengthOfPush_19 ⟨Nat.le_of_ble_eq_true rfl, Nat.le_of_ble_eq_true rfl⟩) hS (fun q _ h => hFc q h) hFc (fun r_4 u9 t9 H1 locs ht9 hvm9 hw9 hB9 hz9 hk9 hS => ?_)
    have hP : va_P (gD g) cl0 ws H1 := by rw [← ht9]; exact hB9.1
    have hz_r_4 : r_4 = 0 ∨ r_4 = 1 := hw9
    clear hB9 hz9 hk9 hvm9 ht9 hw9
    generalize H1 = H at hP hS ⊢
    refine lv_if_eq (tgt := 27) hx hb dX11_lengthOfPush_22 (by decide) (fun c_5 => ?_) (fun c_5 => ?_)
    · refine lv_lload_n hx hb dX11_lengthOfPush_27 rfl (lv_at hl 0 rfl) ?_
      refine lv_lload_n hx hb dX11_lengthOfPush_28 rfl (lv_at hl 0 rfl) ?_
      obtain ⟨z_6, ez_6⟩ : ∃ y : Int32, (y0 : Int64).toInt32 = y := ⟨_, rfl⟩
      refine lv_l2i (v := z_6) hx hb dX11_lengthOfPush_29 ez_6 ?_
      obtain ⟨z_7, ez_7⟩ : ∃ y : Int32, (z_6 : Int32).toInt16.toInt32 = y := ⟨_, rfl⟩
      refine lv_i2s (v := z_7) hx hb dX11_lengthOfPush_30 ez_7 ?_
      obtain ⟨z_8, ez_8⟩ : ∃ y : Int64, (z_7 : Int32).toInt64 = y := ⟨_, rfl⟩
      refine lv_i2l (v := z_8) hx hb dX11_lengthOfPush_31 ez_8 ?_
      refine W.lcmp hx hb dX11_lengthOfPush_32 ?_
      refine lv_topi (fun z_9 ez_9 => ?_)
      have J_48 : ∀ (t_10 : Int32) (H : Heap) (locs : List Loc) (ls : Array Slot), 2 ≤ t_10.toInt ∧ t_10.toInt ≤ 3 → va_P (gD g) cl0 ws H → va_D A ws → va_S A s.heap H locs → lv_has ls 3 [] → W p l e (headSpec (wt yX11_lengthOfPush cX11_lengthOfPush 3 (some .int)) ({ frames := 1, cells := 0, slots := 0, locals := 21 })).room s m ([.long y0, .int x2] : List Value).toArray below meth c H locs (0) (0) (MQ below (va_Qi (fun (r : Int32) (u9 : Unit) => True) (gQ0 g A ws) A) ([.long y0, .int x2] : List Value).toArray s (0) (0) A) (F0 m 48 ls [.int t_10]) := by
        intro t_10 H locs ls iv_11 hP hD hS hl
        refine W.widen (k := 0) (n := 0) (Nat.le_of_ble_eq_true rfl) (Nat.le_of_ble_eq_true rfl) ?_
        exact W.iret (v := t_10) hx hb hr (fun t9 ht9 hW9 => ⟨⟨_, (), rfl, trivial, ⟨by rw [ht9]; exact hP, hD⟩⟩, hS.F ht9⟩) hS.2.2 dX11_lengthOfPush_48
      have J_43 : ∀  (H : Heap) (locs : List Loc) (ls : Array Slot), va_P (gD g) cl0 ws H → va_D A ws → va_S A s.heap H locs → lv_has ls 3 [] → W p l e (headSpec (wt yX11_lengthOfPush cX11_lengthOfPush 3 (some .int)) ({ frames := 1, cells := 0, slots := 0, locals := 21 })).room s m ([.long y0, .int x2] : List Value).toArray below meth c H locs (0) (0) (MQ below (va_Qi (fun (r : Int32) (u9 : Unit) => True) (gQ0 g A ws) A) ([.long y0, .int x2] : List Value).toArray s (0) (0) A) (F0 m 43 ls []) := by
        intro  H locs ls  hP hD hS hl
        refine lv_iconst (v := 3) hx hb dX11_lengthOfPush_43 (by decide) ?_
        refine lv_goto (tgt := 48) hx hb dX11_lengthOfPush_44 (by decide) ?_
        exact J_48 (3) H locs ls (by have e3 : (3 : Int32).toInt = 3 := (by decide); have g_x2 := i_rg x2; omega) hP hD hS (lv_sub hl [] rfl)
      refine lv_if_eq (tgt := 43) hx hb dX11_lengthOfPush_33 (by decide) (fun c_16 => ?_) (fun c_16 => ?_)
      · exact J_43  H locs ls  hP hD hS (lv_sub hl [] rfl)
      · refine lv_iload_n hx hb dX11_lengthOfPush_36 rfl (lv_at hl 1 rfl) ?_
        refine lv_sipush (v := 255) hx hb dX11_lengthOfPush_37 (by decide) ?_
        refine lv_icmp_le (tgt := 47) hx hb dX11_lengthOfPush_40 (by decide) (fun c_17 => ?_) (fun c_17 => ?_)
        · refine lv_iconst (v := 2) hx hb dX11_lengthOfPush_47 (by decide) ?_
          exact J_48 (2) H locs ls (by have e2 : (2 : Int32).toInt = 2 := (by decide); have e255 : (255 : Int32).toInt = 255 := (by decide); have q_c_17 := i_le c_17; have g_x2 := i_rg x2; omega) hP hD hS (lv_sub hl [] rfl)
        · exact J_43  H locs ls  hP hD hS (lv_sub hl [] rfl)
    · refine lv_iconst (v := 2) hx hb dX11_lengthOfPush_25 (by decide) ?_
      refine W.widen (k := 0) (n := 0) (Nat.le_of_ble_eq_true rfl) (Nat.le_of_ble_eq_true rfl) ?_
      exact W.iret (v := 2) hx hb hr (fun t9 ht9 hW9 => ⟨⟨_, (), rfl, trivial, ⟨by rw [ht9]; exact hP, hD⟩⟩, hS.F ht9⟩) hS.2.2 dX11_lengthOfPush_26
  refine lv_if_lt (tgt := 18) hx hb dX11_lengthOfPush_5 (by decide) (fun c_18 => ?_) (fun c_18 => ?_)
  · exact J_18  _ _ ls  hP hD hS (lv_sub hl [0, 1] rfl)
  · refine lv_lload_n hx hb dX11_lengthOfPush_8 rfl (lv_at hl 0 rfl) ?_
    refine lv_ldc2 hx hb hown (hts _ kw_209) dX11_lengthOfPush_9 ?_
    refine W.lcmp hx hb dX11_lengthOfPush_12 ?_
    refine lv_topi (fun z_19 ez_19 => ?_)
    refine lv_if_gt (tgt := 18) hx hb dX11_lengthOfPush_13 (by decide) (fun c_20 => ?_) (fun c_20 => ?_)
    · exact J_18  _ _ ls  hP hD hS (lv_sub hl [0, 1] rfl)
    · refine lv_iconst (v := 1) hx hb dX11_lengthOfPush_16 (by decide) ?_
      refine W.widen (k := 0) (n := 0) (Nat.le_of_ble_eq_true rfl) (Nat.le_of_ble_eq_true rfl) ?_
      exact W.iret (v := 1) hx hb hr (fun t9 ht9 hW9 => ⟨⟨_, (), rfl, trivial, ⟨by rw [ht9]; exact hP, hD⟩⟩, hS.F ht9⟩) hS.2.2 dX11_lengthOfPush_17
set_option maxHeartbeats 1000000 in
set_option maxRecDepth 100000 in
theorem m_X11_want (l : Launch) (g : Gm) (H0 : Heap) (ws : va_W) (h0 : Nat) (x1 : Int32) (hG : Good g ws) (o_h0 : gC ws h0 10) : Met l yX11_want (wt yX11_want cX11_want 2 none) ({ frames := 3, cells := PC ws + (0), slots := PS ws + (0), locals := 83 }) (va_Pc [.ref h0, .int x1] (st_H g H0 ws)) (va_Qv (fun (u9 : va_W) => True) (gQ2 g [(0, 0), (0, 1)] [(0, 0), (6, 0)] none (va_A ws H0.size) ws H0 (0) (0)) (va_A ws H0.size)) (PC ws + (0)) (PS ws + (0)) (va_A ws H0.size) := by
  refine Met.ofW (cc := cX11_want) (maxL := 2) (ret := none) (by decide) rfl ?_
  intro p e s m args below meth c s₁ B hml hv
  obtain ⟨rfl, hH0, hsz, hP, hK, hD0, hex, hE⟩ := hv
  have hx := B.exec
  have hb := B.bytes
  have hr := B.returns
  have hts0 := atoms_spec (ws := wt yX11_want cX11_want 2 none) B.pre
  have hts : ∀ w ∈ tb, w.before _ s = true := fun w h => hts0 w (List.mem_cons_of_mem _ h)
  have hown : s.vm.findClass RX11 = some m.cls := findClass_of_methodNamed B.named
  subst hH0
  have hD := hD0.self (sz := s.heap.size)
  generalize hAe : va_A ws s.heap.size = A at hD hE ⊢
  have hA : ∀ q : Nat, s.heap.size ≤ q → A q := fun q h => by rw [← hAe]; exact Or.inr h
  have hS : va_S A s.heap s.heap [] := va_S.rf
  have hl := lv_entry ([.ref h0, .int x1]) (n := 2) (Nat.le_of_ble_eq_true rfl)
  rw [lg_entry_eq]
  generalize (lg_sl ([.ref h0, .int x1]) ++ List.replicate (2 - (lg_sl ([.ref h0, .int x1])).length) Slot.unset).toArray = ls at hl ⊢
  have hl : lv_has ls 2 [(0, .ref h0), (1, .int x1)] := hl
  refine lv_aload_n hx hb dX11_want_0 rfl (lv_at hl 0 rfl) ?_
  obtain ⟨k_1, fs9, hk_1⟩ := gC_of o_h0
  obtain ⟨r0_1, r1_1, r2_1, r3_1, n3_1, r4_1, n4_1, c5_1, c6_1, v7_1, c8_1, c9_1, r10_1, n10_1, r11_1, n11_1, r12_1, n12_1, r13_1, n13_1, r14_1, v15_1, r16_1, n16_1, r17_1, n17_1, rfl, o_r0_1, o_r1_1, o_r2_1, a_r3_1, f4_1, a_r4_1, f6_1, hz_c6_1, o_v7_1, a_r10_1, f10_1, a_r11_1, f12_1, a_r12_1, f14_1, a_r13_1, f16_1, o_r14_1, o_v15_1, a_r16_1, f20_1, a_r17_1, f22_1, f23_1, f24_1, f25_1, f26_1, f27_1, f28_1, -⟩ := (hG.1 _ _ _ _ hk_1).hX11 rfl
  refine va_get (D := gD g) (ci := 10) (v := .ref r2_1) (C := RX11) (T := TX11) (N := 18) hx hb hts inX11 hown hK hP k_1 hk_1 rfl 2 (by decide) (hts _ kw_139) (fun _ h9 => h9) rfl dX11_want_1 ?_
  refine lv_iconst (v := 0) hx hb dX11_want_4 (by decide) ?_
  obtain ⟨k_2, fs9, hk_2⟩ := gC_of o_r2_1
  obtain ⟨r0_2, n0_2, c1_2, rfl, a_r0_2, f1_2, f2_2, f3_2, f4_2, f5_2, -⟩ := (hG.1 _ _ _ _ hk_2).hX0 rfl
  have hV9 : okv ws 0 1 (.int 0) := okv_i
  refine va_put (D := gD g) (ci := 0) (v := .int 0) (ty := .int) (C := RX0) (T := TX0) (N := 2) hx hb hts inX0 tyX0 tyX0_ok nmX0 hown hK hP hD hS k_2 hk_2 rfl 1 (by decide) (hts _ kw_101) (fun _ h9 => h9) rfl (by decide +kernel) rfl rfl (Nat.le_of_ble_eq_true rfl) dX11_want_5 (fun H locs hP hD hS => ?_)
  have f_3 : 0 ≤ (0 : Int32).toInt := (by have e0 : (0 : Int32).toInt = 0 := (by decide); omega)
  have f_4 : (0 : Int32).toInt ≤ n0_2 := (by have e0 : (0 : Int32).toInt = 0 := (by decide); have q_f1_2 := f1_2; have q_f3_2 := f3_2; have q_f4_2 := f4_2; have q_f5_2 := f5_2; have q_f_3 := f_3; have q_f2_2 := f2_2; have g_c1_2 := i_rg c1_2; omega)
  have hi_5 : invX0 g ws r2_1 [.ref r0_2, .int 0] := ⟨r0_2, (n0_2), (0), rfl, a_r0_2, f1_2, f_3, f_4, f4_2, f5_2, trivial⟩
  obtain ⟨ws_6, e_ws_6⟩ : ∃ z, z = ws.set k_2 (r2_1, .inr (0, [.ref r0_2, .int 0])) := ⟨_, rfl⟩
  have hP : va_P (gD g) cl0 ws_6 H := by rw [e_ws_6]; exact hP
  have hD : va_D A ws_6 := by rw [e_ws_6]; exact hD
  have E_7 : gE ws ws_6 := gE_set e_ws_6 hk_2 (cw_o (fi := 1) (v := .int 0) rfl (by decide))
  have hG : Good g ws_6 := Good_set (fi := 1) (v := .int 0) e_ws_6 hk_2 E_7 rfl hV9 hG (ivX0 hi_5)
  have Fr_8 : gF [(0, 1)] [] (some r2_1) ws ws_6 := gF_put (fi := 1) (v := .int 0) e_ws_6 hk_2 rfl (by decide)
  have pp_9 := Fr_8.pp
  have hkN := gset_self e_ws_6 hk_2
  have hk_1 := gset_ob e_ws_6 hk_2 hk_1 (by decide)
  have hk_2 := hkN
  have o_h0 := E_7.1 _ _ o_h0
  have o_r0_1 := E_7.1 _ _ o_r0_1
  have o_r1_1 := E_7.1 _ _ o_r1_1
  have o_r2_1 := E_7.1 _ _ o_r2_1
  have a_r3_1 := E_7.1 _ _ a_r3_1
  have a_r4_1 := E_7.1 _ _ a_r4_1
  have o_v7_1 : ∀ b, v7_1 = some b → gC ws_6 b 9 := fun b h => E_7.1 _ _ (o_v7_1 b h)
  have a_r10_1 := E_7.1 _ _ a_r10_1
  have a_r11_1 := E_7.1 _ _ a_r11_1
  have a_r12_1 := E_7.1 _ _ a_r12_1
  have a_r13_1 := E_7.1 _ _ a_r13_1
  have o_r14_1 := E_7.1 _ _ o_r14_1
  have o_v15_1 : ∀ b, v15_1 = some b → gC ws_6 b 7 := fun b h => E_7.1 _ _ (o_v15_1 b h)
  have a_r16_1 := E_7.1 _ _ a_r16_1
  have a_r17_1 := E_7.1 _ _ a_r17_1
  have a_r0_2 := E_7.1 _ _ a_r0_2
  refine lv_aload_n hx hb dX11_want_8 rfl (lv_at hl 0 rfl) ?_
  refine va_get (D := gD g) (ci := 10) (v := .ref r2_1) (C := RX11) (T := TX11) (N := 18) hx hb hts inX11 hown hK hP k_1 hk_1 rfl 2 (by decide) (hts _ kw_139) (fun _ h9 => h9) rfl dX11_want_9 ?_
  refine lv_iload_n hx hb dX11_want_12 rfl (lv_at hl 1 rfl) ?_
  have hFc := gfree hD hS hA
  have pg_10 := ge_10_17 hD hk_1 rfl a_r17_1
  have pg_11 := ge_0_0 hD hk_2 rfl a_r0_2
  refine W_led (fun hL0 => ?_)
  refine va_callv (va_runV (As := [.int x1]) (rest := []) ⟨hx, hb, hml, hown, hts⟩ (m_X0_put l g H ws_6 r2_1 (x1) (0) hG o_r2_1 (gP_of hD hk_2 (fun q90 e90 => by cases e90; exact (by have e0 : (0 : Int32).toInt = 0 := (by decide); have q_f_3 := f_3; omega))) (gP_of hD hk_2 (fun q90 e90 => by cases e90; exact (by have e0 : (0 : Int32).toInt = 0 := (by decide); have q_f_3 := f_3; omega)))) (cwV 1 hts (gd_V kw_140 kw_13 kw_14 kw_3 kw_12) rfl rfl rfl (by decide +kernel) ⟨Nat.le_of_ble_eq_true rfl, Nat.le_of_ble_eq_true rfl⟩) ⟨gblindH, va_recv hK hP (ci := 0) (q0 := k_2) rfl hk_2, fun U hU hW9 => gmkH hU hW9 hP hK hD hex hE hS hFc⟩ rfl rfl hl.1 rfl (lv_room (Nat.le_of_ble_eq_true rfl)) dX11_want_13 ⟨(show 0 + (PC ws_6 + (0)) ≤ PC ws + (0) from (by have e0 : (0 : Int32).toInt = 0 := (by decide); have q_f_3 := f_3; omega)), (show 0 + (PS ws_6 + (0)) ≤ PS ws + (0) from (by have e0 : (0 : Int32).toInt = 0 := (by decide); have q_f_3 := f_3; omega))⟩) hS (fun q _ h => hFc q h) hFc (fun  ws_12 t9 H1 locs ht9 hvm9 hw9 hB9 hz9 hk9 hS => ?_)
  obtain ⟨E_13, Fr_14, hG, hP1, hD1, dc_15, ds_16, hLd, hdc_15, hds_16⟩ := hB9
  rw [ht9] at hLd
  refine W_tight (hL0.tr hLd).1 (hL0.tr hLd).2.1 ?_
  clear hL0 hLd
  have hP : va_P (gD g) cl0 ws_12 H1 := by rw [← ht9]; exact hP1
  have hD : va_D A ws_12 := hD1.weaken (fun _ _ _ h => hFc _ h)
  have kf_17 := hw9
  clear hP1 hD1 hz9 hk9 hvm9 ht9 hw9
  generalize H1 = H at hP hS ⊢
  have aa_18 := a_r3_1
  have aa_19 := a_r4_1
  have aa_20 := a_r10_1
  have aa_21 := a_r11_1
  have aa_22 := a_r12_1
  have aa_23 := a_r13_1
  have aa_24 := a_r16_1
  have aa_25 := a_r17_1
  have aa_26 := a_r0_2
  have o_h0 := E_13.1 _ _ o_h0
  refine W_led (fun hLd => ?_)
  have hcl : 0 + dc_15 + PC ws_12 ≤ PC ws + (0) := (by have e0 : (0 : Int32).toInt = 0 := (by decide); have q_f_3 := f_3; omega)
  have hsl : 0 + ds_16 + PS ws_12 ≤ PS ws + (0) := (by have e0 : (0 : Int32).toInt = 0 := (by decide); have q_f_3 := f_3; omega)
  refine W.widen (k := PC ws + (0)) (n := PS ws + (0)) (by omega) (by omega) ?_
  exact W.vret hx hb hr (fun t9 ht9 hW9 => ⟨⟨ws_12, rfl, trivial, ⟨(E_7.tr E_13), (gF.tr (gF.mo (F' := [(0, 0), (0, 1)]) (C' := [(0, 0), (6, 0)]) (S' := none) Fr_8 (by decide) (fun _ h => absurd h List.not_mem_nil) (Or.inl rfl)) (gF.mo (F' := [(0, 0), (0, 1)]) (C' := [(0, 0), (6, 0)]) (S' := none) Fr_14 (fun _ h => h) (fun _ h => h) (Or.inl rfl))), hG, by rw [ht9]; exact hP, hD, _, _, by rw [ht9]; exact hLd, hcl, hsl⟩⟩, hS.F ht9⟩) hS.2.2 dX11_want_16
set_option maxHeartbeats 1000000 in
set_option maxRecDepth 100000 in
theorem m_X11_leastLocals (l : Launch) (g : Gm) (sz : Nat) (ws : va_W) (h0 : Nat) (hG : Good g ws) (o_h0 : gC ws h0 10) (nn_h0_7 : gN ws h0 7) (nn_h0_15 : gN ws h0 15) : Met l yX11_leastLocals (wt yX11_leastLocals cX11_leastLocals 3 (some .int)) ({ frames := 2, cells := 0, slots := 0, locals := 42 }) (va_Pc [.ref h0] (st_G g sz ws)) (va_Qi (fun (r : Int32) (u9 : Unit) => True) (gQ0 g (va_A ws sz) ws) (va_A ws sz)) (0) (0) (va_A ws sz) := by
  refine Met.ofW (cc := cX11_leastLocals) (maxL := 3) (ret := (some .int)) (by decide) rfl ?_
  intro p e s m args below meth c s₁ B hml hv
  obtain ⟨rfl, hsz, hP, hK, hD0, hex, hE⟩ := hv
  have hx := B.exec
  have hb := B.bytes
  have hr := B.returns
  have hts0 := atoms_spec (ws := wt yX11_leastLocals cX11_leastLocals 3 (some .int)) B.pre
  have hts : ∀ w ∈ tb, w.before _ s = true := fun w h => hts0 w (List.mem_cons_of_mem _ h)
  have hown : s.vm.findClass RX11 = some m.cls := findClass_of_methodNamed B.named
  subst hsz
  have hD := hD0.self (sz := s.heap.size)
  generalize hAe : va_A ws s.heap.size = A at hD hE ⊢
  have hA : ∀ q : Nat, s.heap.size ≤ q → A q := fun q h => by rw [← hAe]; exact Or.inr h
  have hS : va_S A s.heap s.heap [] := va_S.rf
  have hl := lv_entry ([.ref h0]) (n := 3) (Nat.le_of_ble_eq_true rfl)
  rw [lg_entry_eq]
  generalize (lg_sl ([.ref h0]) ++ List.replicate (3 - (lg_sl ([.ref h0])).length) Slot.unset).toArray = ls at hl ⊢
  have hl : lv_has ls 3 [(0, .ref h0)] := hl
  obtain ⟨k_1, fs9, hk_1⟩ := gC_of o_h0
  obtain ⟨r0_1, r1_1, r2_1, r3_1, n3_1, r4_1, n4_1, c5_1, c6_1, v7_1, c8_1, c9_1, r10_1, n10_1, r11_1, n11_1, r12_1, n12_1, r13_1, n13_1, r14_1, v15_1, r16_1, n16_1, r17_1, n17_1, rfl, o_r0_1, o_r1_1, o_r2_1, a_r3_1, f4_1, a_r4_1, f6_1, hz_c6_1, o_v7_1, a_r10_1, f10_1, a_r11_1, f12_1, a_r12_1, f14_1, a_r13_1, f16_1, o_r14_1, o_v15_1, a_r16_1, f20_1, a_r17_1, f22_1, f23_1, f24_1, f25_1, f26_1, f27_1, f28_1, -⟩ := (hG.1 _ _ _ _ hk_1).hX11 rfl
  obtain ⟨b_2, hn9⟩ := nn_h0_7 _ _ _ hk_1
  have hn9 := fe_qr hn9
  subst hn9
  have o_b_2 := o_v7_1 _ rfl
  obtain ⟨b_3, hn9⟩ := nn_h0_15 _ _ _ hk_1
  have hn9 := fe_qr hn9
  subst hn9
  have o_b_3 := o_v15_1 _ rfl
  refine lv_aload_n hx hb dX11_leastLocals_0 rfl (lv_at hl 0 rfl) ?_
  refine va_get (D := gD g) (ci := 10) (v := .ref b_2) (C := RX11) (T := TX11) (N := 18) hx hb hts inX11 hown hK hP k_1 hk_1 rfl 7 (by decide) (hts _ kw_86) (fun _ h9 => h9) rfl dX11_leastLocals_1 ?_
  refine lv_aload_n hx hb dX11_leastLocals_4 rfl (lv_at hl 0 rfl) ?_
  refine va_get (D := gD g) (ci := 10) (v := .ref b_3) (C := RX11) (T := TX11) (N := 18) hx hb hts inX11 hown hK hP k_1 hk_1 rfl 15 (by decide) (hts _ kw_84) (fun _ h9 => h9) rfl dX11_leastLocals_5 ?_
  obtain ⟨k_4, fs9, hk_4⟩ := gC_of o_b_3
  obtain ⟨r0_4, n0_4, r1_4, n1_4, c2_4, r3_4, n3_4, c4_4, r5_4, n5_4, r6_4, n6_4, r7_4, n7_4, r8_4, n8_4, c9_4, c10_4, c11_4, v12_4, v13_4, v14_4, rfl, a_r0_4, f1_4, a_r1_4, f3_4, a_r3_4, f5_4, a_r5_4, f7_4, a_r6_4, f9_4, a_r7_4, f11_4, a_r8_4, f13_4, o_v12_4, o_v13_4, o_v14_4, f17_4, f18_4, f19_4, f20_4, f21_4, f22_4, f23_4, f24_4, f25_4, f26_4, f27_4, f28_4, f29_4, -⟩ := (hG.1 _ _ _ _ hk_4).hX8 rfl
  refine va_get (D := gD g) (ci := 7) (v := .int c11_4) (C := RX8) (T := TX8) (N := 15) hx hb hts inX8 hown hK hP k_4 hk_4 rfl 11 (by decide) (hts _ kw_85) (fun _ h9 => h9) rfl dX11_leastLocals_8 ?_
  have hFc := gfree hD hS hA
  obtain ⟨k_5, fs_5, hk_5⟩ := gC_of o_b_2
  refine va_calli (va_runV (As := [.int c11_4]) (rest := []) ⟨hx, hb, hml, hown, hts⟩ (m_X10_takesOfMethod l g s.heap.size ws b_2 (c11_4) hG o_b_2) (cwV 1 hts (gd_V kw_187 kw_78 kw_79 kw_34 kw_77) rfl rfl rfl (by decide +kernel) ⟨Nat.le_of_ble_eq_true rfl, Nat.le_of_ble_eq_true rfl⟩) ⟨gblind, va_recv hK hP (ci := 9) (q0 := k_5) rfl hk_5, fun U hU hW9 => gmk hU hW9 hP hK hD hex hE hS hFc⟩ rfl rfl hl.1 rfl (lv_room (Nat.le_of_ble_eq_true rfl)) dX11_leastLocals_11 ⟨Nat.le_of_ble_eq_true rfl, Nat.le_of_ble_eq_true rfl⟩) hS (fun q _ h => hFc q h) hFc (fun r_6 u9 t9 H1 locs ht9 hvm9 hw9 hB9 hz9 hk9 hS => ?_)
  have hP : va_P (gD g) cl0 ws H1 := by rw [← ht9]; exact hB9.1
  clear hB9 hz9 hk9 hvm9 ht9 hw9
  generalize H1 = H at hP hS ⊢
  have hFc := gfree hD hS hA
  refine va_calli (va_runS (As := [.int r_6]) (rest := []) ⟨hx, hb, hml, hown, hts⟩ (m_X6_placesOf l g H.size ws (r_6) hG ) (va_cwS 1 hts (gd_S kw_188 kw_1253 kw_1207 kw_1252) rfl rfl rfl (by decide +kernel) ⟨Nat.le_of_ble_eq_true rfl, Nat.le_of_ble_eq_true rfl⟩) ⟨gblind, fun U hU hW9 => gmk hU hW9 hP hK hD hex hE hS hFc⟩ rfl rfl hl.1 rfl (lv_room (Nat.le_of_ble_eq_true rfl)) dX11_leastLocals_14 ⟨Nat.le_of_ble_eq_true rfl, Nat.le_of_ble_eq_true rfl⟩) hS (fun q _ h => hFc q h) hFc (fun r_7 u9 t9 H1 locs ht9 hvm9 hw9 hB9 hz9 hk9 hS => ?_)
  have hP : va_P (gD g) cl0 ws H1 := by rw [← ht9]; exact hB9.1
  have h_r_7 := hw9
  clear hB9 hz9 hk9 hvm9 ht9 hw9
  generalize H1 = H at hP hS ⊢
  refine lv_istore_n (lv' := [(1, .int r_7), (0, .ref h0)]) hx hb dX11_leastLocals_17 rfl hl (by decide) rfl (fun ls hl => ?_)
  refine lv_iconst (v := 0) hx hb dX11_leastLocals_18 (by decide) ?_
  refine lv_istore_n (lv' := [(2, .int 0), (1, .int r_7), (0, .ref h0)]) hx hb dX11_leastLocals_19 rfl hl (by decide) rfl (fun ls hl => ?_)
  have J_20 : ∀ (n9 : Nat) (v1_8 : Int32) (v2_9 : Int32) (H : Heap) (locs : List Loc) (ls : Array Slot), (2147483647 - v2_9.toInt).toNat = n9 → 0 ≤ v2_9.toInt → va_P (gD g) cl0 ws H → va_D A ws → va_S A s.heap H locs → lv_has ls 3 [(0, .ref h0), (1, .int v1_8), (2, .int v2_9)] → W p l e (headSpec (wt yX11_leastLocals cX11_leastLocals 3 (some .int)) ({ frames := 2, cells := 0, slots := 0, locals := 42 })).room s m ([.ref h0] : List Value).toArray below meth c H locs (0) (0) (MQ below (va_Qi (fun (r : Int32) (u9 : Unit) => True) (gQ0 g A ws) A) ([.ref h0] : List Value).toArray s (0) (0) A) (F0 m 20 ls []) := by
    intro n9
    induction n9 using Nat.strongRecOn with
    | ind n9 ih_20 =>
      intro v1_8 v2_9 H locs ls hm9 iv_10 hP hD hS hl
      subst hm9
      refine lv_iload_n hx hb dX11_leastLocals_20 rfl (lv_at hl 2 rfl) ?_
      refine lv_aload_n hx hb dX11_leastLocals_21 rfl (lv_at hl 0 rfl) ?_
      refine va_get (D := gD g) (ci := 10) (v := .ref b_3) (C := RX11) (T := TX11) (N := 18) hx hb hts inX11 hown hK hP k_1 hk_1 rfl 15 (by decide) (hts _ kw_84) (fun _ h9 => h9) rfl dX11_leastLocals_22 ?_
      refine va_get (D := gD g) (ci := 7) (v := .int c2_4) (C := RX8) (T := TX8) (N := 15) hx hb hts inX8 hown hK hP k_4 hk_4 rfl 2 (by decide) (hts _ kw_102) (fun _ h9 => h9) rfl dX11_leastLocals_25 ?_
      refine lv_icmp_ge (tgt := 76) hx hb dX11_leastLocals_28 (by decide) (fun c_13 => ?_) (fun c_13 => ?_)
      · refine lv_iload_n hx hb dX11_leastLocals_76 rfl (lv_at hl 1 rfl) ?_
        refine W.widen (k := 0) (n := 0) (Nat.le_of_ble_eq_true rfl) (Nat.le_of_ble_eq_true rfl) ?_
        exact W.iret (v := v1_8) hx hb hr (fun t9 ht9 hW9 => ⟨⟨_, (), rfl, trivial, ⟨by rw [ht9]; exact hP, hD⟩⟩, hS.F ht9⟩) hS.2.2 dX11_leastLocals_77
      · refine lv_aload_n hx hb dX11_leastLocals_31 rfl (lv_at hl 0 rfl) ?_
        refine va_get (D := gD g) (ci := 10) (v := .ref b_3) (C := RX11) (T := TX11) (N := 18) hx hb hts inX11 hown hK hP k_1 hk_1 rfl 15 (by decide) (hts _ kw_84) (fun _ h9 => h9) rfl dX11_leastLocals_32 ?_
        refine lv_iload_n hx hb dX11_leastLocals_35 rfl (lv_at hl 2 rfl) ?_
        have hFc := gfree hD hS hA
        refine va_calli (va_runV (As := [.int v2_9]) (rest := []) ⟨hx, hb, hml, hown, hts⟩ (m_X8_opAt l g H.size ws b_3 (v2_9) hG o_b_3) (cwV 1 hts (gd_V kw_189 kw_1513 kw_1514 kw_782 kw_1512) rfl rfl rfl (by decide +kernel) ⟨Nat.le_of_ble_eq_true rfl, Nat.le_of_ble_eq_true rfl⟩) ⟨gblind, va_recv hK hP (ci := 7) (q0 := k_4) rfl hk_4, fun U hU hW9 => gmk hU hW9 hP hK hD hex hE hS hFc⟩ rfl rfl hl.1 rfl (lv_room (Nat.le_of_ble_eq_true rfl)) dX11_leastLocals_36 ⟨Nat.le_of_ble_eq_true rfl, Nat.le_of_ble_eq_true rfl⟩) hS (fun q _ h => hFc q h) hFc (fun r_14 u9 t9 H1 locs ht9 hvm9 hw9 hB9 hz9 hk9 hS => ?_)
        have hP : va_P (gD g) cl0 ws H1 := by rw [← ht9]; exact hB9.1
        clear hB9 hz9 hk9 hvm9 ht9 hw9
        generalize H1 = H at hP hS ⊢
        have hFc := gfree hD hS hA
        refine va_calli (va_runS (As := [.int r_14]) (rest := []) ⟨hx, hb, hml, hown, hts⟩ (m_X6_usesLocal l g H.size ws (r_14) hG ) (va_cwS 1 hts (gd_S kw_190 kw_1260 kw_1207 kw_1259) rfl rfl rfl (by decide +kernel) ⟨Nat.le_of_ble_eq_true rfl, Nat.le_of_ble_eq_true rfl⟩) ⟨gblind, fun U hU hW9 => gmk hU hW9 hP hK hD hex hE hS hFc⟩ rfl rfl hl.1 rfl (lv_room (Nat.le_of_ble_eq_true rfl)) dX11_leastLocals_39 ⟨Nat.le_of_ble_eq_true rfl, Nat.le_of_ble_eq_true rfl⟩) hS (fun q _ h => hFc q h) hFc (fun r_15 u9 t9 H1 locs ht9 hvm9 hw9 hB9 hz9 hk9 hS => ?_)
        have hP : va_P (gD g) cl0 ws H1 := by rw [← ht9]; exact hB9.1
        have hz_r_15 : r_15 = 0 ∨ r_15 = 1 := hw9
        clear hB9 hz9 hk9 hvm9 ht9 hw9
        generalize H1 = H at hP hS ⊢
        have J_70 : ∀ (v1_16 : Int32) (H : Heap) (locs : List Loc) (ls : Array Slot), va_P (gD g) cl0 ws H → va_D A ws → va_S A s.heap H locs → lv_has ls 3 [(0, .ref h0), (1, .int v1_16), (2, .int v2_9)] → W p l e (headSpec (wt yX11_leastLocals cX11_leastLocals 3 (some .int)) ({ frames := 2, cells := 0, slots := 0, locals := 42 })).room s m ([.ref h0] : List Value).toArray below meth c H locs (0) (0) (MQ below (va_Qi (fun (r : Int32) (u9 : Unit) => True) (gQ0 g A ws) A) ([.ref h0] : List Value).toArray s (0) (0) A) (F0 m 70 ls []) := by
          intro v1_16 H locs ls  hP hD hS hl
          obtain ⟨z_19, ez_19⟩ : ∃ z : Int32, v2_9 + Int32.ofInt 1 = z := ⟨_, rfl⟩
          refine lv_iinc (v := z_19) (lv' := [(2, .int z_19), (0, .ref h0), (1, .int v1_16)]) hx hb dX11_leastLocals_70 hl (k := 2) rfl ez_19 (by decide) rfl (fun ls hl => ?_)
          refine lv_goto (tgt := 20) hx hb dX11_leastLocals_73 (by decide) ?_
          exact ih_20 _ (by obtain ⟨u_z_19, q_z_19⟩ := i_iz ez_19 (by decide) (by decide); have q_iv_10 := iv_10; have q_c_13 := i_nle c_13; have g_c2_4 := i_rg c2_4; have g_v1_16 := i_rg v1_16; have g_v2_9 := i_rg v2_9; have g_z_19 := i_rg z_19; omega) (v1_16) (z_19) H locs ls rfl (by obtain ⟨u_z_19, q_z_19⟩ := i_iz ez_19 (by decide) (by decide); have q_iv_10 := iv_10; have q_c_13 := i_nle c_13; have g_c2_4 := i_rg c2_4; have g_v2_9 := i_rg v2_9; have g_z_19 := i_rg z_19; omega) hP hD hS (lv_sub hl [1, 2, 0] rfl)
        refine lv_if_eq (tgt := 70) hx hb dX11_leastLocals_42 (by decide) (fun c_20 => ?_) (fun c_20 => ?_)
        · exact J_70 (v1_8) H locs ls  hP hD hS (lv_sub hl [0, 1, 2] rfl)
        · refine lv_iload_n hx hb dX11_leastLocals_45 rfl (lv_at hl 1 rfl) ?_
          refine lv_aload_n hx hb dX11_leastLocals_46 rfl (lv_at hl 0 rfl) ?_
          refine va_get (D := gD g) (ci := 10) (v := .ref b_3) (C := RX11) (T := TX11) (N := 18) hx hb hts inX11 hown hK hP k_1 hk_1 rfl 15 (by decide) (hts _ kw_84) (fun _ h9 => h9) rfl dX11_leastLocals_47 ?_
          refine lv_iload_n hx hb dX11_leastLocals_50 rfl (lv_at hl 2 rfl) ?_
          have hFc := gfree hD hS hA
          refine va_calli (va_runV (As := [.int v2_9]) (rest := [.int v1_8]) ⟨hx, hb, hml, hown, hts⟩ (m_X8_localOf l g H.size ws b_3 (v2_9) hG o_b_3) (cwV 1 hts (gd_V kw_191 kw_1509 kw_1510 kw_782 kw_1508) rfl rfl rfl (by decide +kernel) ⟨Nat.le_of_ble_eq_true rfl, Nat.le_of_ble_eq_true rfl⟩) ⟨gblind, va_recv hK hP (ci := 7) (q0 := k_4) rfl hk_4, fun U hU hW9 => gmk hU hW9 hP hK hD hex hE hS hFc⟩ rfl rfl hl.1 rfl (lv_room (Nat.le_of_ble_eq_true rfl)) dX11_leastLocals_51 ⟨Nat.le_of_ble_eq_true rfl, Nat.le_of_ble_eq_true rfl⟩) hS (fun q _ h => hFc q h) hFc (fun r_21 u9 t9 H1 locs ht9 hvm9 hw9 hB9 hz9 hk9 hS => ?_)
          have hP : va_P (gD g) cl0 ws H1 := by rw [← ht9]; exact hB9.1
          clear hB9 hz9 hk9 hvm9 ht9 hw9
          generalize H1 = H at hP hS ⊢
          refine lv_aload_n hx hb dX11_leastLocals_54 rfl (lv_at hl 0 rfl) ?_
          refine va_get (D := gD g) (ci := 10) (v := .ref b_3) (C := RX11) (T := TX11) (N := 18) hx hb hts inX11 hown hK hP k_1 hk_1 rfl 15 (by decide) (hts _ kw_84) (fun _ h9 => h9) rfl dX11_leastLocals_55 ?_
          refine lv_iload_n hx hb dX11_leastLocals_58 rfl (lv_at hl 2 rfl) ?_
          have hFc := gfree hD hS hA
          refine va_calli (va_runV (As := [.int v2_9]) (rest := [.int r_21, .int v1_8]) ⟨hx, hb, hml, hown, hts⟩ (m_X8_opAt l g H.size ws b_3 (v2_9) hG o_b_3) (cwV 1 hts (gd_V kw_189 kw_1513 kw_1514 kw_782 kw_1512) rfl rfl rfl (by decide +kernel) ⟨Nat.le_of_ble_eq_true rfl, Nat.le_of_ble_eq_true rfl⟩) ⟨gblind, va_recv hK hP (ci := 7) (q0 := k_4) rfl hk_4, fun U hU hW9 => gmk hU hW9 hP hK hD hex hE hS hFc⟩ rfl rfl hl.1 rfl (lv_room (Nat.le_of_ble_eq_true rfl)) dX11_leastLocals_59 ⟨Nat.le_of_ble_eq_true rfl, Nat.le_of_ble_eq_true rfl⟩) hS (fun q _ h => hFc q h) hFc (fun r_22 u9 t9 H1 locs ht9 hvm9 hw9 hB9 hz9 hk9 hS => ?_)
          have hP : va_P (gD g) cl0 ws H1 := by rw [← ht9]; exact hB9.1
          clear hB9 hz9 hk9 hvm9 ht9 hw9
          generalize H1 = H at hP hS ⊢
          have hFc := gfree hD hS hA
          refine va_calli (va_runS (As := [.int r_22]) (rest := [.int r_21, .int v1_8]) ⟨hx, hb, hml, hown, hts⟩ (m_X6_localWidth l g H.size ws (r_22) hG ) (va_cwS 1 hts (gd_S kw_192 kw_1247 kw_1207 kw_1246) rfl rfl rfl (by decide +kernel) ⟨Nat.le_of_ble_eq_true rfl, Nat.le_of_ble_eq_true rfl⟩) ⟨gblind, fun U hU hW9 => gmk hU hW9 hP hK hD hex hE hS hFc⟩ rfl rfl hl.1 rfl (lv_room (Nat.le_of_ble_eq_true rfl)) dX11_leastLocals_62 ⟨Nat.le_of_ble_eq_true rfl, Nat.le_of_ble_eq_true rfl⟩) hS (fun q _ h => hFc q h) hFc (fun r_23 u9 t9 H1 locs ht9 hvm9 hw9 hB9 hz9 hk9 hS => ?_)
          have hP : va_P (gD g) cl0 ws H1 := by rw [← ht9]; exact hB9.1
          clear hB9 hz9 hk9 hvm9 ht9 hw9
          generalize H1 = H at hP hS ⊢
          refine lv_iadd hx hb dX11_leastLocals_65 ?_
          refine lv_topi (fun z_24 ez_24 => ?_)
          refine va_mmax hx hb (by rw [hml]; exact hl.1.symm) hown (hts _ kw_193) (hts _ kw_1747) (hts _ kw_1748) (hts _ kw_1746) (Nat.le_of_ble_eq_true rfl) (Nat.le_of_ble_eq_true rfl) (Nat.le_of_ble_eq_true rfl) (Nat.le_of_ble_eq_true rfl) dX11_leastLocals_66 ?_
          refine lv_topi (fun z_25 ez_25 => ?_)
          refine lv_istore_n (lv' := [(1, .int z_25), (0, .ref h0), (2, .int v2_9)]) hx hb dX11_leastLocals_69 rfl hl (by decide) rfl (fun ls hl => ?_)
          exact J_70 (z_25) H locs ls  hP hD hS (lv_sub hl [1, 0, 2] rfl)
  exact J_20 _ (r_7) (0) H locs ls rfl (by have e0 : (0 : Int32).toInt = 0 := (by decide); omega) hP hD hS (lv_sub hl [2, 1, 0] rfl)
